theorem g_ldcw {E X own cc nL ret pc L st w k n} (C : CX E X own cc nL ret) {z : Int} {v : Int32} {index : Nat} (ko : Cond.constant own index v ∈ GT) (hv : v = Int32.ofInt z) (d : decode cc pc = .ok (.ldc_w index, 3)) (kk : G E X nL (pc + 3) L (iI z :: st) w k n) : G E X nL pc L st w k n := by
  subst hv
  exact fun H locs ls h1 h2 h3 => lv_ldcw C.ex C.co C.ow (C.ts _ ko) d (kk H locs ls h1 h2 h3)
theorem g_ixor {E X own cc nL ret pc L st w k n} {x y z : Int} (C : CX E X own cc nL ret) (d : decode cc pc = .ok (.ixor, 1)) (h : Int32.ofInt x ^^^ Int32.ofInt y = Int32.ofInt z) (kk : G E X nL (pc + 1) L (iI z :: st) w k n) : G E X nL pc L (iI y :: iI x :: st) w k n :=
  fun H locs ls h1 h2 h3 => lv_ixor C.ex C.co d (by rw [h]; exact kk H locs ls h1 h2 h3)
theorem g_lxor {E X own cc nL ret pc L st w k n} {x y z : Int} (C : CX E X own cc nL ret) (d : decode cc pc = .ok (.lxor, 1)) (h : Int64.ofInt x ^^^ Int64.ofInt y = Int64.ofInt z) (kk : G E X nL (pc + 1) L (jJ z :: st) w k n) : G E X nL pc L (jJ y :: jJ x :: st) w k n :=
  fun H locs ls h1 h2 h3 => lv_lxor C.ex C.co d (by rw [h]; exact kk H locs ls h1 h2 h3)
theorem gen32 (X : Int32) : ∃ z : Int, X = Int32.ofInt z ∧ -2147483648 ≤ z ∧ z < 2147483648 := ⟨X.toInt, (Int32.ofInt_toInt X).symm, Int32.le_toInt X, by have := Int32.toInt_lt X; omega⟩
theorem gen64 (X : Int64) : ∃ z : Int, X = Int64.ofInt z ∧ -9223372036854775808 ≤ z ∧ z < 9223372036854775808 := ⟨X.toInt, (Int64.ofInt_toInt X).symm, Int64.le_toInt X, by have := Int64.toInt_lt X; omega⟩
theorem or28 {x y : Int} (hx : 0 ≤ x ∧ x < B28) (hy : 0 ≤ y ∧ y < B28) : ∃ z : Int, Int32.ofInt x ||| Int32.ofInt y = Int32.ofInt z ∧ 0 ≤ z ∧ z < B28 := by
  obtain ⟨a, rfl⟩ := Int.eq_ofNat_of_zero_le hx.1
  obtain ⟨b, rfl⟩ := Int.eq_ofNat_of_zero_le hy.1
  have hB28 : B28 = 268435456 := rfl
  have ha : a < 2 ^ 28 := by omega
  have hb : b < 2 ^ 28 := by omega
  refine ⟨((a ||| b : Nat) : Int), ?_, by omega, by have := Nat.or_lt_two_pow ha hb; omega⟩
  apply Int32.toBitVec_inj.mp
  show BitVec.ofInt 32 _ ||| BitVec.ofInt 32 _ = BitVec.ofInt 32 _
  rw [BitVec.ofInt_natCast, BitVec.ofInt_natCast, BitVec.ofInt_natCast, ← BitVec.ofNat_or]
theorem ushr28 (x : Int) : ∃ z : Int, ((Int64.ofInt x).toUInt64 >>> ((Int32.ofInt 28).toInt64.toUInt64 &&& Int64.toUInt64 63)).toInt64 = Int64.ofInt z ∧ 0 ≤ z ∧ z < 68719476736 := by
  generalize hX : (Int64.ofInt x).toUInt64 = X
  have hD : ((Int32.ofInt 28).toInt64.toUInt64 &&& Int64.toUInt64 63).toBitVec.toNat % 64 = 28 := by decide
  generalize (Int32.ofInt 28).toInt64.toUInt64 &&& Int64.toUInt64 63 = D at hD
  have hk := UInt64.toNat_lt X
  refine ⟨((X.toNat / 2 ^ 28 : Nat) : Int), ?_, by omega, by omega⟩
  have e1 : X >>> D = UInt64.ofNat (X.toNat / 2 ^ 28) := by
    apply UInt64.toNat_inj.mp
    rw [UInt64.toNat_shiftRight, UInt64.toNat_ofNat_of_lt' (by show _ < 2 ^ 64; omega), Nat.shiftRight_eq_div_pow]
    congr 2
  rw [e1]
  apply Int64.toBitVec_inj.mp
  show (UInt64.ofNat (X.toNat / 2 ^ 28)).toBitVec = BitVec.ofInt 64 _
  rw [BitVec.ofInt_natCast]; rfl
set_option maxHeartbeats 4000000 in
set_option maxRecDepth 100000 in
theorem s_J6_numberOfLeadingZeros_0f7a4 (l : Launch) {E : GE} {w : Wd} {x : Int} (hx : 0 ≤ x ∧ x < 2147483648) : Sp E l yJ6_numberOfLeadingZeros_0f7a4 cJ6_numberOfLeadingZeros_0f7a4 2 (some .int) 0 (0) (0) [iI x] w (fun r' w' => (∃ d : Int, r' = some (iI d) ∧ 0 ≤ d ∧ d ≤ 32) ∧ w' = w) := by
  refine sp_intro [some (iI x), none] rfl (Nat.le_of_ble_eq_true rfl) pn_J6 ?_
  intro X C hRm hl hnm hQ
  obtain ⟨hRf, hRl, hRc, hRs⟩ := hRm
  refine g_wf (fun hwf => ?_)
  refine g_iload_n C dJ6_numberOfLeadingZeros_0f7a4_0 rfl ?_
  refine g_if_gt (tgt := 15) C dJ6_numberOfLeadingZeros_0f7a4_1 (by decide) (by omega) (fun h1 => ?_) (fun h1 => ?_)
  · refine g_bipush C dJ6_numberOfLeadingZeros_0f7a4_15 (by decide) ?_
    refine g_istore_n C dJ6_numberOfLeadingZeros_0f7a4_17 (by decide) rfl ?_
    refine g_iload_n C dJ6_numberOfLeadingZeros_0f7a4_18 rfl ?_
    refine g_ldcw (z := 65536) C ko_RJ6_264 (by decide) dJ6_numberOfLeadingZeros_0f7a4_19 ?_
    refine g_icmp_lt (tgt := 33) C dJ6_numberOfLeadingZeros_0f7a4_22 (by decide) (by omega) (by omega) (fun h22 => ?_) (fun h22 => ?_)
    · refine g_iload_n C dJ6_numberOfLeadingZeros_0f7a4_33 rfl ?_
      refine g_sipush C dJ6_numberOfLeadingZeros_0f7a4_34 (by decide) ?_
      refine g_icmp_lt (tgt := 48) C dJ6_numberOfLeadingZeros_0f7a4_37 (by decide) (by omega) (by omega) (fun h37 => ?_) (fun h37 => ?_)
      · refine g_iload_n C dJ6_numberOfLeadingZeros_0f7a4_48 rfl ?_
        refine g_bipush C dJ6_numberOfLeadingZeros_0f7a4_49 (by decide) ?_
        refine g_icmp_lt (tgt := 61) C dJ6_numberOfLeadingZeros_0f7a4_51 (by decide) (by omega) (by omega) (fun h51 => ?_) (fun h51 => ?_)
        · refine g_iload_n C dJ6_numberOfLeadingZeros_0f7a4_61 rfl ?_
          refine g_iconst C dJ6_numberOfLeadingZeros_0f7a4_62 ?_
          refine g_icmp_lt (tgt := 73) C dJ6_numberOfLeadingZeros_0f7a4_63 (by decide) (by omega) (by omega) (fun h63 => ?_) (fun h63 => ?_)
          · refine g_iload_n C dJ6_numberOfLeadingZeros_0f7a4_73 rfl ?_
            refine g_iload_n C dJ6_numberOfLeadingZeros_0f7a4_74 rfl ?_
            refine g_iconst C dJ6_numberOfLeadingZeros_0f7a4_75 ?_
            refine g_iushr (z := _) C dJ6_numberOfLeadingZeros_0f7a4_76 (i_ushr 1 (by omega) (by omega) (by decide)) ?_
            refine g_isub C dJ6_numberOfLeadingZeros_0f7a4_77 ?_
            exact g_ireturn C hQ dJ6_numberOfLeadingZeros_0f7a4_78 (Nat.le_refl _) (Nat.le_refl _) ⟨⟨_, rfl, by omega, by omega⟩, rfl⟩
          · refine g_iinc C dJ6_numberOfLeadingZeros_0f7a4_66 rfl (by decide) rfl ?_
            refine g_iload_n C dJ6_numberOfLeadingZeros_0f7a4_69 rfl ?_
            refine g_iconst C dJ6_numberOfLeadingZeros_0f7a4_70 ?_
            refine g_iushr (z := _) C dJ6_numberOfLeadingZeros_0f7a4_71 (i_ushr 2 (by omega) (by omega) (by decide)) ?_
            refine g_istore_n C dJ6_numberOfLeadingZeros_0f7a4_72 (by decide) rfl ?_
            refine g_iload_n C dJ6_numberOfLeadingZeros_0f7a4_73 rfl ?_
            refine g_iload_n C dJ6_numberOfLeadingZeros_0f7a4_74 rfl ?_
            refine g_iconst C dJ6_numberOfLeadingZeros_0f7a4_75 ?_
            refine g_iushr (z := _) C dJ6_numberOfLeadingZeros_0f7a4_76 (i_ushr 1 (by omega) (by omega) (by decide)) ?_
            refine g_isub C dJ6_numberOfLeadingZeros_0f7a4_77 ?_
            exact g_ireturn C hQ dJ6_numberOfLeadingZeros_0f7a4_78 (Nat.le_refl _) (Nat.le_refl _) ⟨⟨_, rfl, by omega, by omega⟩, rfl⟩
        · refine g_iinc C dJ6_numberOfLeadingZeros_0f7a4_54 rfl (by decide) rfl ?_
          refine g_iload_n C dJ6_numberOfLeadingZeros_0f7a4_57 rfl ?_
          refine g_iconst C dJ6_numberOfLeadingZeros_0f7a4_58 ?_
          refine g_iushr (z := _) C dJ6_numberOfLeadingZeros_0f7a4_59 (i_ushr 4 (by omega) (by omega) (by decide)) ?_
          refine g_istore_n C dJ6_numberOfLeadingZeros_0f7a4_60 (by decide) rfl ?_
          refine g_iload_n C dJ6_numberOfLeadingZeros_0f7a4_61 rfl ?_
          refine g_iconst C dJ6_numberOfLeadingZeros_0f7a4_62 ?_
          refine g_icmp_lt (tgt := 73) C dJ6_numberOfLeadingZeros_0f7a4_63 (by decide) (by omega) (by omega) (fun h63 => ?_) (fun h63 => ?_)
          · refine g_iload_n C dJ6_numberOfLeadingZeros_0f7a4_73 rfl ?_
            refine g_iload_n C dJ6_numberOfLeadingZeros_0f7a4_74 rfl ?_
            refine g_iconst C dJ6_numberOfLeadingZeros_0f7a4_75 ?_
            refine g_iushr (z := _) C dJ6_numberOfLeadingZeros_0f7a4_76 (i_ushr 1 (by omega) (by omega) (by decide)) ?_
            refine g_isub C dJ6_numberOfLeadingZeros_0f7a4_77 ?_
            exact g_ireturn C hQ dJ6_numberOfLeadingZeros_0f7a4_78 (Nat.le_refl _) (Nat.le_refl _) ⟨⟨_, rfl, by omega, by omega⟩, rfl⟩
          · refine g_iinc C dJ6_numberOfLeadingZeros_0f7a4_66 rfl (by decide) rfl ?_
            refine g_iload_n C dJ6_numberOfLeadingZeros_0f7a4_69 rfl ?_
            refine g_iconst C dJ6_numberOfLeadingZeros_0f7a4_70 ?_
            refine g_iushr (z := _) C dJ6_numberOfLeadingZeros_0f7a4_71 (i_ushr 2 (by omega) (by omega) (by decide)) ?_
            refine g_istore_n C dJ6_numberOfLeadingZeros_0f7a4_72 (by decide) rfl ?_
            refine g_iload_n C dJ6_numberOfLeadingZeros_0f7a4_73 rfl ?_
            refine g_iload_n C dJ6_numberOfLeadingZeros_0f7a4_74 rfl ?_
            refine g_iconst C dJ6_numberOfLeadingZeros_0f7a4_75 ?_
            refine g_iushr (z := _) C dJ6_numberOfLeadingZeros_0f7a4_76 (i_ushr 1 (by omega) (by omega) (by decide)) ?_
            refine g_isub C dJ6_numberOfLeadingZeros_0f7a4_77 ?_
            exact g_ireturn C hQ dJ6_numberOfLeadingZeros_0f7a4_78 (Nat.le_refl _) (Nat.le_refl _) ⟨⟨_, rfl, by omega, by omega⟩, rfl⟩
      · refine g_iinc C dJ6_numberOfLeadingZeros_0f7a4_40 rfl (by decide) rfl ?_
        refine g_iload_n C dJ6_numberOfLeadingZeros_0f7a4_43 rfl ?_
        refine g_bipush C dJ6_numberOfLeadingZeros_0f7a4_44 (by decide) ?_
        refine g_iushr (z := _) C dJ6_numberOfLeadingZeros_0f7a4_46 (i_ushr 8 (by omega) (by omega) (by decide)) ?_
        refine g_istore_n C dJ6_numberOfLeadingZeros_0f7a4_47 (by decide) rfl ?_
        refine g_iload_n C dJ6_numberOfLeadingZeros_0f7a4_48 rfl ?_
        refine g_bipush C dJ6_numberOfLeadingZeros_0f7a4_49 (by decide) ?_
        refine g_icmp_lt (tgt := 61) C dJ6_numberOfLeadingZeros_0f7a4_51 (by decide) (by omega) (by omega) (fun h51 => ?_) (fun h51 => ?_)
        · refine g_iload_n C dJ6_numberOfLeadingZeros_0f7a4_61 rfl ?_
          refine g_iconst C dJ6_numberOfLeadingZeros_0f7a4_62 ?_
          refine g_icmp_lt (tgt := 73) C dJ6_numberOfLeadingZeros_0f7a4_63 (by decide) (by omega) (by omega) (fun h63 => ?_) (fun h63 => ?_)
          · refine g_iload_n C dJ6_numberOfLeadingZeros_0f7a4_73 rfl ?_
            refine g_iload_n C dJ6_numberOfLeadingZeros_0f7a4_74 rfl ?_
            refine g_iconst C dJ6_numberOfLeadingZeros_0f7a4_75 ?_
            refine g_iushr (z := _) C dJ6_numberOfLeadingZeros_0f7a4_76 (i_ushr 1 (by omega) (by omega) (by decide)) ?_
            refine g_isub C dJ6_numberOfLeadingZeros_0f7a4_77 ?_
            exact g_ireturn C hQ dJ6_numberOfLeadingZeros_0f7a4_78 (Nat.le_refl _) (Nat.le_refl _) ⟨⟨_, rfl, by omega, by omega⟩, rfl⟩
          · refine g_iinc C dJ6_numberOfLeadingZeros_0f7a4_66 rfl (by decide) rfl ?_
            refine g_iload_n C dJ6_numberOfLeadingZeros_0f7a4_69 rfl ?_
            refine g_iconst C dJ6_numberOfLeadingZeros_0f7a4_70 ?_
            refine g_iushr (z := _) C dJ6_numberOfLeadingZeros_0f7a4_71 (i_ushr 2 (by omega) (by omega) (by decide)) ?_
            refine g_istore_n C dJ6_numberOfLeadingZeros_0f7a4_72 (by decide) rfl ?_
            refine g_iload_n C dJ6_numberOfLeadingZeros_0f7a4_73 rfl ?_
            refine g_iload_n C dJ6_numberOfLeadingZeros_0f7a4_74 rfl ?_
            refine g_iconst C dJ6_numberOfLeadingZeros_0f7a4_75 ?_
            refine g_iushr (z := _) C dJ6_numberOfLeadingZeros_0f7a4_76 (i_ushr 1 (by omega) (by omega) (by decide)) ?_
            refine g_isub C dJ6_numberOfLeadingZeros_0f7a4_77 ?_
            exact g_ireturn C hQ dJ6_numberOfLeadingZeros_0f7a4_78 (Nat.le_refl _) (Nat.le_refl _) ⟨⟨_, rfl, by omega, by omega⟩, rfl⟩
        · refine g_iinc C dJ6_numberOfLeadingZeros_0f7a4_54 rfl (by decide) rfl ?_
          refine g_iload_n C dJ6_numberOfLeadingZeros_0f7a4_57 rfl ?_
          refine g_iconst C dJ6_numberOfLeadingZeros_0f7a4_58 ?_
          refine g_iushr (z := _) C dJ6_numberOfLeadingZeros_0f7a4_59 (i_ushr 4 (by omega) (by omega) (by decide)) ?_
          refine g_istore_n C dJ6_numberOfLeadingZeros_0f7a4_60 (by decide) rfl ?_
          refine g_iload_n C dJ6_numberOfLeadingZeros_0f7a4_61 rfl ?_
          refine g_iconst C dJ6_numberOfLeadingZeros_0f7a4_62 ?_
          refine g_icmp_lt (tgt := 73) C dJ6_numberOfLeadingZeros_0f7a4_63 (by decide) (by omega) (by omega) (fun h63 => ?_) (fun h63 => ?_)
          · refine g_iload_n C dJ6_numberOfLeadingZeros_0f7a4_73 rfl ?_
            refine g_iload_n C dJ6_numberOfLeadingZeros_0f7a4_74 rfl ?_
            refine g_iconst C dJ6_numberOfLeadingZeros_0f7a4_75 ?_
            refine g_iushr (z := _) C dJ6_numberOfLeadingZeros_0f7a4_76 (i_ushr 1 (by omega) (by omega) (by decide)) ?_
            refine g_isub C dJ6_numberOfLeadingZeros_0f7a4_77 ?_
            exact g_ireturn C hQ dJ6_numberOfLeadingZeros_0f7a4_78 (Nat.le_refl _) (Nat.le_refl _) ⟨⟨_, rfl, by omega, by omega⟩, rfl⟩
          · refine g_iinc C dJ6_numberOfLeadingZeros_0f7a4_66 rfl (by decide) rfl ?_
            refine g_iload_n C dJ6_numberOfLeadingZeros_0f7a4_69 rfl ?_
            refine g_iconst C dJ6_numberOfLeadingZeros_0f7a4_70 ?_
            refine g_iushr (z := _) C dJ6_numberOfLeadingZeros_0f7a4_71 (i_ushr 2 (by omega) (by omega) (by decide)) ?_
            refine g_istore_n C dJ6_numberOfLeadingZeros_0f7a4_72 (by decide) rfl ?_
            refine g_iload_n C dJ6_numberOfLeadingZeros_0f7a4_73 rfl ?_
            refine g_iload_n C dJ6_numberOfLeadingZeros_0f7a4_74 rfl ?_
            refine g_iconst C dJ6_numberOfLeadingZeros_0f7a4_75 ?_
            refine g_iushr (z := _) C dJ6_numberOfLeadingZeros_0f7a4_76 (i_ushr 1 (by omega) (by omega) (by decide)) ?_
            refine g_isub C dJ6_numberOfLeadingZeros_0f7a4_77 ?_
            exact g_ireturn C hQ dJ6_numberOfLeadingZeros_0f7a4_78 (Nat.le_refl _) (Nat.le_refl _) ⟨⟨_, rfl, by omega, by omega⟩, rfl⟩
    · refine g_iinc C dJ6_numberOfLeadingZeros_0f7a4_25 rfl (by decide) rfl ?_
      refine g_iload_n C dJ6_numberOfLeadingZeros_0f7a4_28 rfl ?_
      refine g_bipush C dJ6_numberOfLeadingZeros_0f7a4_29 (by decide) ?_
      refine g_iushr (z := _) C dJ6_numberOfLeadingZeros_0f7a4_31 (i_ushr 16 (by omega) (by omega) (by decide)) ?_
      refine g_istore_n C dJ6_numberOfLeadingZeros_0f7a4_32 (by decide) rfl ?_
      refine g_iload_n C dJ6_numberOfLeadingZeros_0f7a4_33 rfl ?_
      refine g_sipush C dJ6_numberOfLeadingZeros_0f7a4_34 (by decide) ?_
      refine g_icmp_lt (tgt := 48) C dJ6_numberOfLeadingZeros_0f7a4_37 (by decide) (by omega) (by omega) (fun h37 => ?_) (fun h37 => ?_)
      · refine g_iload_n C dJ6_numberOfLeadingZeros_0f7a4_48 rfl ?_
        refine g_bipush C dJ6_numberOfLeadingZeros_0f7a4_49 (by decide) ?_
        refine g_icmp_lt (tgt := 61) C dJ6_numberOfLeadingZeros_0f7a4_51 (by decide) (by omega) (by omega) (fun h51 => ?_) (fun h51 => ?_)
        · refine g_iload_n C dJ6_numberOfLeadingZeros_0f7a4_61 rfl ?_
          refine g_iconst C dJ6_numberOfLeadingZeros_0f7a4_62 ?_
          refine g_icmp_lt (tgt := 73) C dJ6_numberOfLeadingZeros_0f7a4_63 (by decide) (by omega) (by omega) (fun h63 => ?_) (fun h63 => ?_)
          · refine g_iload_n C dJ6_numberOfLeadingZeros_0f7a4_73 rfl ?_
            refine g_iload_n C dJ6_numberOfLeadingZeros_0f7a4_74 rfl ?_
            refine g_iconst C dJ6_numberOfLeadingZeros_0f7a4_75 ?_
            refine g_iushr (z := _) C dJ6_numberOfLeadingZeros_0f7a4_76 (i_ushr 1 (by omega) (by omega) (by decide)) ?_
            refine g_isub C dJ6_numberOfLeadingZeros_0f7a4_77 ?_
            exact g_ireturn C hQ dJ6_numberOfLeadingZeros_0f7a4_78 (Nat.le_refl _) (Nat.le_refl _) ⟨⟨_, rfl, by omega, by omega⟩, rfl⟩
          · refine g_iinc C dJ6_numberOfLeadingZeros_0f7a4_66 rfl (by decide) rfl ?_
            refine g_iload_n C dJ6_numberOfLeadingZeros_0f7a4_69 rfl ?_
            refine g_iconst C dJ6_numberOfLeadingZeros_0f7a4_70 ?_
            refine g_iushr (z := _) C dJ6_numberOfLeadingZeros_0f7a4_71 (i_ushr 2 (by omega) (by omega) (by decide)) ?_
            refine g_istore_n C dJ6_numberOfLeadingZeros_0f7a4_72 (by decide) rfl ?_
            refine g_iload_n C dJ6_numberOfLeadingZeros_0f7a4_73 rfl ?_
            refine g_iload_n C dJ6_numberOfLeadingZeros_0f7a4_74 rfl ?_
            refine g_iconst C dJ6_numberOfLeadingZeros_0f7a4_75 ?_
            refine g_iushr (z := _) C dJ6_numberOfLeadingZeros_0f7a4_76 (i_ushr 1 (by omega) (by omega) (by decide)) ?_
            refine g_isub C dJ6_numberOfLeadingZeros_0f7a4_77 ?_
            exact g_ireturn C hQ dJ6_numberOfLeadingZeros_0f7a4_78 (Nat.le_refl _) (Nat.le_refl _) ⟨⟨_, rfl, by omega, by omega⟩, rfl⟩
        · refine g_iinc C dJ6_numberOfLeadingZeros_0f7a4_54 rfl (by decide) rfl ?_
          refine g_iload_n C dJ6_numberOfLeadingZeros_0f7a4_57 rfl ?_
          refine g_iconst C dJ6_numberOfLeadingZeros_0f7a4_58 ?_
          refine g_iushr (z := _) C dJ6_numberOfLeadingZeros_0f7a4_59 (i_ushr 4 (by omega) (by omega) (by decide)) ?_
          refine g_istore_n C dJ6_numberOfLeadingZeros_0f7a4_60 (by decide) rfl ?_
          refine g_iload_n C dJ6_numberOfLeadingZeros_0f7a4_61 rfl ?_
          refine g_iconst C dJ6_numberOfLeadingZeros_0f7a4_62 ?_
          refine g_icmp_lt (tgt := 73) C dJ6_numberOfLeadingZeros_0f7a4_63 (by decide) (by omega) (by omega) (fun h63 => ?_) (fun h63 => ?_)
          · refine g_iload_n C dJ6_numberOfLeadingZeros_0f7a4_73 rfl ?_
            refine g_iload_n C dJ6_numberOfLeadingZeros_0f7a4_74 rfl ?_
            refine g_iconst C dJ6_numberOfLeadingZeros_0f7a4_75 ?_
            refine g_iushr (z := _) C dJ6_numberOfLeadingZeros_0f7a4_76 (i_ushr 1 (by omega) (by omega) (by decide)) ?_
            refine g_isub C dJ6_numberOfLeadingZeros_0f7a4_77 ?_
            exact g_ireturn C hQ dJ6_numberOfLeadingZeros_0f7a4_78 (Nat.le_refl _) (Nat.le_refl _) ⟨⟨_, rfl, by omega, by omega⟩, rfl⟩
          · refine g_iinc C dJ6_numberOfLeadingZeros_0f7a4_66 rfl (by decide) rfl ?_
            refine g_iload_n C dJ6_numberOfLeadingZeros_0f7a4_69 rfl ?_
            refine g_iconst C dJ6_numberOfLeadingZeros_0f7a4_70 ?_
            refine g_iushr (z := _) C dJ6_numberOfLeadingZeros_0f7a4_71 (i_ushr 2 (by omega) (by omega) (by decide)) ?_
            refine g_istore_n C dJ6_numberOfLeadingZeros_0f7a4_72 (by decide) rfl ?_
            refine g_iload_n C dJ6_numberOfLeadingZeros_0f7a4_73 rfl ?_
            refine g_iload_n C dJ6_numberOfLeadingZeros_0f7a4_74 rfl ?_
            refine g_iconst C dJ6_numberOfLeadingZeros_0f7a4_75 ?_
            refine g_iushr (z := _) C dJ6_numberOfLeadingZeros_0f7a4_76 (i_ushr 1 (by omega) (by omega) (by decide)) ?_
            refine g_isub C dJ6_numberOfLeadingZeros_0f7a4_77 ?_
            exact g_ireturn C hQ dJ6_numberOfLeadingZeros_0f7a4_78 (Nat.le_refl _) (Nat.le_refl _) ⟨⟨_, rfl, by omega, by omega⟩, rfl⟩
      · refine g_iinc C dJ6_numberOfLeadingZeros_0f7a4_40 rfl (by decide) rfl ?_
        refine g_iload_n C dJ6_numberOfLeadingZeros_0f7a4_43 rfl ?_
        refine g_bipush C dJ6_numberOfLeadingZeros_0f7a4_44 (by decide) ?_
        refine g_iushr (z := _) C dJ6_numberOfLeadingZeros_0f7a4_46 (i_ushr 8 (by omega) (by omega) (by decide)) ?_
        refine g_istore_n C dJ6_numberOfLeadingZeros_0f7a4_47 (by decide) rfl ?_
        refine g_iload_n C dJ6_numberOfLeadingZeros_0f7a4_48 rfl ?_
        refine g_bipush C dJ6_numberOfLeadingZeros_0f7a4_49 (by decide) ?_
        refine g_icmp_lt (tgt := 61) C dJ6_numberOfLeadingZeros_0f7a4_51 (by decide) (by omega) (by omega) (fun h51 => ?_) (fun h51 => ?_)
        · refine g_iload_n C dJ6_numberOfLeadingZeros_0f7a4_61 rfl ?_
          refine g_iconst C dJ6_numberOfLeadingZeros_0f7a4_62 ?_
          refine g_icmp_lt (tgt := 73) C dJ6_numberOfLeadingZeros_0f7a4_63 (by decide) (by omega) (by omega) (fun h63 => ?_) (fun h63 => ?_)
          · refine g_iload_n C dJ6_numberOfLeadingZeros_0f7a4_73 rfl ?_
            refine g_iload_n C dJ6_numberOfLeadingZeros_0f7a4_74 rfl ?_
            refine g_iconst C dJ6_numberOfLeadingZeros_0f7a4_75 ?_
            refine g_iushr (z := _) C dJ6_numberOfLeadingZeros_0f7a4_76 (i_ushr 1 (by omega) (by omega) (by decide)) ?_
            refine g_isub C dJ6_numberOfLeadingZeros_0f7a4_77 ?_
            exact g_ireturn C hQ dJ6_numberOfLeadingZeros_0f7a4_78 (Nat.le_refl _) (Nat.le_refl _) ⟨⟨_, rfl, by omega, by omega⟩, rfl⟩
          · refine g_iinc C dJ6_numberOfLeadingZeros_0f7a4_66 rfl (by decide) rfl ?_
            refine g_iload_n C dJ6_numberOfLeadingZeros_0f7a4_69 rfl ?_
            refine g_iconst C dJ6_numberOfLeadingZeros_0f7a4_70 ?_
            refine g_iushr (z := _) C dJ6_numberOfLeadingZeros_0f7a4_71 (i_ushr 2 (by omega) (by omega) (by decide)) ?_
            refine g_istore_n C dJ6_numberOfLeadingZeros_0f7a4_72 (by decide) rfl ?_
            refine g_iload_n C dJ6_numberOfLeadingZeros_0f7a4_73 rfl ?_
            refine g_iload_n C dJ6_numberOfLeadingZeros_0f7a4_74 rfl ?_
            refine g_iconst C dJ6_numberOfLeadingZeros_0f7a4_75 ?_
            refine g_iushr (z := _) C dJ6_numberOfLeadingZeros_0f7a4_76 (i_ushr 1 (by omega) (by omega) (by decide)) ?_
            refine g_isub C dJ6_numberOfLeadingZeros_0f7a4_77 ?_
            exact g_ireturn C hQ dJ6_numberOfLeadingZeros_0f7a4_78 (Nat.le_refl _) (Nat.le_refl _) ⟨⟨_, rfl, by omega, by omega⟩, rfl⟩
        · refine g_iinc C dJ6_numberOfLeadingZeros_0f7a4_54 rfl (by decide) rfl ?_
          refine g_iload_n C dJ6_numberOfLeadingZeros_0f7a4_57 rfl ?_
          refine g_iconst C dJ6_numberOfLeadingZeros_0f7a4_58 ?_
          refine g_iushr (z := _) C dJ6_numberOfLeadingZeros_0f7a4_59 (i_ushr 4 (by omega) (by omega) (by decide)) ?_
          refine g_istore_n C dJ6_numberOfLeadingZeros_0f7a4_60 (by decide) rfl ?_
          refine g_iload_n C dJ6_numberOfLeadingZeros_0f7a4_61 rfl ?_
          refine g_iconst C dJ6_numberOfLeadingZeros_0f7a4_62 ?_
          refine g_icmp_lt (tgt := 73) C dJ6_numberOfLeadingZeros_0f7a4_63 (by decide) (by omega) (by omega) (fun h63 => ?_) (fun h63 => ?_)
          · refine g_iload_n C dJ6_numberOfLeadingZeros_0f7a4_73 rfl ?_
            refine g_iload_n C dJ6_numberOfLeadingZeros_0f7a4_74 rfl ?_
            refine g_iconst C dJ6_numberOfLeadingZeros_0f7a4_75 ?_
            refine g_iushr (z := _) C dJ6_numberOfLeadingZeros_0f7a4_76 (i_ushr 1 (by omega) (by omega) (by decide)) ?_
            refine g_isub C dJ6_numberOfLeadingZeros_0f7a4_77 ?_
            exact g_ireturn C hQ dJ6_numberOfLeadingZeros_0f7a4_78 (Nat.le_refl _) (Nat.le_refl _) ⟨⟨_, rfl, by omega, by omega⟩, rfl⟩
          · refine g_iinc C dJ6_numberOfLeadingZeros_0f7a4_66 rfl (by decide) rfl ?_
            refine g_iload_n C dJ6_numberOfLeadingZeros_0f7a4_69 rfl ?_
            refine g_iconst C dJ6_numberOfLeadingZeros_0f7a4_70 ?_
            refine g_iushr (z := _) C dJ6_numberOfLeadingZeros_0f7a4_71 (i_ushr 2 (by omega) (by omega) (by decide)) ?_
            refine g_istore_n C dJ6_numberOfLeadingZeros_0f7a4_72 (by decide) rfl ?_
            refine g_iload_n C dJ6_numberOfLeadingZeros_0f7a4_73 rfl ?_
            refine g_iload_n C dJ6_numberOfLeadingZeros_0f7a4_74 rfl ?_
            refine g_iconst C dJ6_numberOfLeadingZeros_0f7a4_75 ?_
            refine g_iushr (z := _) C dJ6_numberOfLeadingZeros_0f7a4_76 (i_ushr 1 (by omega) (by omega) (by decide)) ?_
            refine g_isub C dJ6_numberOfLeadingZeros_0f7a4_77 ?_
            exact g_ireturn C hQ dJ6_numberOfLeadingZeros_0f7a4_78 (Nat.le_refl _) (Nat.le_refl _) ⟨⟨_, rfl, by omega, by omega⟩, rfl⟩
  · refine g_iload_n C dJ6_numberOfLeadingZeros_0f7a4_4 rfl ?_
    refine g_if_ne (tgt := 13) C dJ6_numberOfLeadingZeros_0f7a4_5 (by decide) (by omega) (fun h5 => ?_) (fun h5 => ?_)
    · refine g_iconst C dJ6_numberOfLeadingZeros_0f7a4_13 ?_
      exact g_ireturn C hQ dJ6_numberOfLeadingZeros_0f7a4_14 (Nat.le_refl _) (Nat.le_refl _) ⟨⟨_, rfl, by omega, by omega⟩, rfl⟩
    · refine g_bipush C dJ6_numberOfLeadingZeros_0f7a4_8 (by decide) ?_
      refine g_goto (tgt := 14) C dJ6_numberOfLeadingZeros_0f7a4_10 (by decide) ?_
      exact g_ireturn C hQ dJ6_numberOfLeadingZeros_0f7a4_14 (Nat.le_refl _) (Nat.le_refl _) ⟨⟨_, rfl, by omega, by omega⟩, rfl⟩
set_option maxHeartbeats 4000000 in
set_option maxRecDepth 100000 in
theorem s_J6_numberOfTrailingZeros_0f7a4 (l : Launch) {E : GE} {w : Wd} {x : Int} (hx : 0 ≤ x ∧ x < 2147483648) : Sp E l yJ6_numberOfTrailingZeros_0f7a4 cJ6_numberOfTrailingZeros_0f7a4 2 (some .int) 0 (0) (0) [iI x] w (fun r' w' => (∃ d : Int, r' = some (iI d) ∧ -2147483648 ≤ d ∧ d < 2147483648) ∧ w' = w) := by
  refine sp_intro [some (iI x), none] rfl (Nat.le_of_ble_eq_true rfl) pn_J6 ?_
  intro X C hRm hl hnm hQ
  obtain ⟨hRf, hRl, hRc, hRs⟩ := hRm
  refine g_wf (fun hwf => ?_)
  obtain ⟨z2, hz2, -, -⟩ := gen32 (Int32.ofInt x ^^^ Int32.ofInt (-1))
  obtain ⟨z6, hz6, hz6a, hz6b⟩ := gen32 (Int32.ofInt z2 &&& Int32.ofInt (x - 1))
  obtain ⟨z15, hz15, hz15a, hz15b⟩ := gen32 (Int32.ofInt z6 &&& Int32.ofInt 32)
  refine g_iload_n C dJ6_numberOfTrailingZeros_0f7a4_0 rfl ?_
  refine g_iconst C dJ6_numberOfTrailingZeros_0f7a4_1 ?_
  refine g_ixor (z := z2) C dJ6_numberOfTrailingZeros_0f7a4_2 hz2 ?_
  refine g_iload_n C dJ6_numberOfTrailingZeros_0f7a4_3 rfl ?_
  refine g_iconst C dJ6_numberOfTrailingZeros_0f7a4_4 ?_
  refine g_isub C dJ6_numberOfTrailingZeros_0f7a4_5 ?_
  refine g_iand (z := z6) C dJ6_numberOfTrailingZeros_0f7a4_6 hz6 ?_
  refine g_istore_n C dJ6_numberOfTrailingZeros_0f7a4_7 (by decide) rfl ?_
  refine g_iload_n C dJ6_numberOfTrailingZeros_0f7a4_8 rfl ?_
  refine g_if_gt (tgt := 17) C dJ6_numberOfTrailingZeros_0f7a4_9 (by decide) (by omega) (fun h9 => ?_) (fun h9 => ?_)
  · refine g_iconst C dJ6_numberOfTrailingZeros_0f7a4_17 ?_
    refine g_istore_n C dJ6_numberOfTrailingZeros_0f7a4_18 (by decide) rfl ?_
    refine g_iload_n C dJ6_numberOfTrailingZeros_0f7a4_19 rfl ?_
    refine g_ldcw (z := 65536) C ko_RJ6_264 (by decide) dJ6_numberOfTrailingZeros_0f7a4_20 ?_
    refine g_icmp_le (tgt := 34) C dJ6_numberOfTrailingZeros_0f7a4_23 (by decide) (by omega) (by omega) (fun h23 => ?_) (fun h23 => ?_)
    · refine g_iload_n C dJ6_numberOfTrailingZeros_0f7a4_34 rfl ?_
      refine g_sipush C dJ6_numberOfTrailingZeros_0f7a4_35 (by decide) ?_
      refine g_icmp_le (tgt := 49) C dJ6_numberOfTrailingZeros_0f7a4_38 (by decide) (by omega) (by omega) (fun h38 => ?_) (fun h38 => ?_)
      · refine g_iload_n C dJ6_numberOfTrailingZeros_0f7a4_49 rfl ?_
        refine g_bipush C dJ6_numberOfTrailingZeros_0f7a4_50 (by decide) ?_
        refine g_icmp_le (tgt := 62) C dJ6_numberOfTrailingZeros_0f7a4_52 (by decide) (by omega) (by omega) (fun h52 => ?_) (fun h52 => ?_)
        · refine g_iload_n C dJ6_numberOfTrailingZeros_0f7a4_62 rfl ?_
          refine g_iconst C dJ6_numberOfTrailingZeros_0f7a4_63 ?_
          refine g_icmp_le (tgt := 74) C dJ6_numberOfTrailingZeros_0f7a4_64 (by decide) (by omega) (by omega) (fun h64 => ?_) (fun h64 => ?_)
          · refine g_iload_n C dJ6_numberOfTrailingZeros_0f7a4_74 rfl ?_
            refine g_iload_n C dJ6_numberOfTrailingZeros_0f7a4_75 rfl ?_
            refine g_iconst C dJ6_numberOfTrailingZeros_0f7a4_76 ?_
            refine g_iushr (z := _) C dJ6_numberOfTrailingZeros_0f7a4_77 (i_ushr 1 (by omega) (by omega) (by decide)) ?_
            refine g_iadd C dJ6_numberOfTrailingZeros_0f7a4_78 ?_
            exact g_ireturn C hQ dJ6_numberOfTrailingZeros_0f7a4_79 (Nat.le_refl _) (Nat.le_refl _) ⟨⟨_, rfl, by omega, by omega⟩, rfl⟩
          · refine g_iinc C dJ6_numberOfTrailingZeros_0f7a4_67 rfl (by decide) rfl ?_
            refine g_iload_n C dJ6_numberOfTrailingZeros_0f7a4_70 rfl ?_
            refine g_iconst C dJ6_numberOfTrailingZeros_0f7a4_71 ?_
            refine g_iushr (z := _) C dJ6_numberOfTrailingZeros_0f7a4_72 (i_ushr 2 (by omega) (by omega) (by decide)) ?_
            refine g_istore_n C dJ6_numberOfTrailingZeros_0f7a4_73 (by decide) rfl ?_
            refine g_iload_n C dJ6_numberOfTrailingZeros_0f7a4_74 rfl ?_
            refine g_iload_n C dJ6_numberOfTrailingZeros_0f7a4_75 rfl ?_
            refine g_iconst C dJ6_numberOfTrailingZeros_0f7a4_76 ?_
            refine g_iushr (z := _) C dJ6_numberOfTrailingZeros_0f7a4_77 (i_ushr 1 (by omega) (by omega) (by decide)) ?_
            refine g_iadd C dJ6_numberOfTrailingZeros_0f7a4_78 ?_
            exact g_ireturn C hQ dJ6_numberOfTrailingZeros_0f7a4_79 (Nat.le_refl _) (Nat.le_refl _) ⟨⟨_, rfl, by omega, by omega⟩, rfl⟩
        · refine g_iinc C dJ6_numberOfTrailingZeros_0f7a4_55 rfl (by decide) rfl ?_
          refine g_iload_n C dJ6_numberOfTrailingZeros_0f7a4_58 rfl ?_
          refine g_iconst C dJ6_numberOfTrailingZeros_0f7a4_59 ?_
          refine g_iushr (z := _) C dJ6_numberOfTrailingZeros_0f7a4_60 (i_ushr 4 (by omega) (by omega) (by decide)) ?_
          refine g_istore_n C dJ6_numberOfTrailingZeros_0f7a4_61 (by decide) rfl ?_
          refine g_iload_n C dJ6_numberOfTrailingZeros_0f7a4_62 rfl ?_
          refine g_iconst C dJ6_numberOfTrailingZeros_0f7a4_63 ?_
          refine g_icmp_le (tgt := 74) C dJ6_numberOfTrailingZeros_0f7a4_64 (by decide) (by omega) (by omega) (fun h64 => ?_) (fun h64 => ?_)
          · refine g_iload_n C dJ6_numberOfTrailingZeros_0f7a4_74 rfl ?_
            refine g_iload_n C dJ6_numberOfTrailingZeros_0f7a4_75 rfl ?_
            refine g_iconst C dJ6_numberOfTrailingZeros_0f7a4_76 ?_
            refine g_iushr (z := _) C dJ6_numberOfTrailingZeros_0f7a4_77 (i_ushr 1 (by omega) (by omega) (by decide)) ?_
            refine g_iadd C dJ6_numberOfTrailingZeros_0f7a4_78 ?_
            exact g_ireturn C hQ dJ6_numberOfTrailingZeros_0f7a4_79 (Nat.le_refl _) (Nat.le_refl _) ⟨⟨_, rfl, by omega, by omega⟩, rfl⟩
          · refine g_iinc C dJ6_numberOfTrailingZeros_0f7a4_67 rfl (by decide) rfl ?_
            refine g_iload_n C dJ6_numberOfTrailingZeros_0f7a4_70 rfl ?_
            refine g_iconst C dJ6_numberOfTrailingZeros_0f7a4_71 ?_
            refine g_iushr (z := _) C dJ6_numberOfTrailingZeros_0f7a4_72 (i_ushr 2 (by omega) (by omega) (by decide)) ?_
            refine g_istore_n C dJ6_numberOfTrailingZeros_0f7a4_73 (by decide) rfl ?_
            refine g_iload_n C dJ6_numberOfTrailingZeros_0f7a4_74 rfl ?_
            refine g_iload_n C dJ6_numberOfTrailingZeros_0f7a4_75 rfl ?_
            refine g_iconst C dJ6_numberOfTrailingZeros_0f7a4_76 ?_
            refine g_iushr (z := _) C dJ6_numberOfTrailingZeros_0f7a4_77 (i_ushr 1 (by omega) (by omega) (by decide)) ?_
            refine g_iadd C dJ6_numberOfTrailingZeros_0f7a4_78 ?_
            exact g_ireturn C hQ dJ6_numberOfTrailingZeros_0f7a4_79 (Nat.le_refl _) (Nat.le_refl _) ⟨⟨_, rfl, by omega, by omega⟩, rfl⟩
      · refine g_iinc C dJ6_numberOfTrailingZeros_0f7a4_41 rfl (by decide) rfl ?_
        refine g_iload_n C dJ6_numberOfTrailingZeros_0f7a4_44 rfl ?_
        refine g_bipush C dJ6_numberOfTrailingZeros_0f7a4_45 (by decide) ?_
        refine g_iushr (z := _) C dJ6_numberOfTrailingZeros_0f7a4_47 (i_ushr 8 (by omega) (by omega) (by decide)) ?_
        refine g_istore_n C dJ6_numberOfTrailingZeros_0f7a4_48 (by decide) rfl ?_
        refine g_iload_n C dJ6_numberOfTrailingZeros_0f7a4_49 rfl ?_
        refine g_bipush C dJ6_numberOfTrailingZeros_0f7a4_50 (by decide) ?_
        refine g_icmp_le (tgt := 62) C dJ6_numberOfTrailingZeros_0f7a4_52 (by decide) (by omega) (by omega) (fun h52 => ?_) (fun h52 => ?_)
        · refine g_iload_n C dJ6_numberOfTrailingZeros_0f7a4_62 rfl ?_
          refine g_iconst C dJ6_numberOfTrailingZeros_0f7a4_63 ?_
          refine g_icmp_le (tgt := 74) C dJ6_numberOfTrailingZeros_0f7a4_64 (by decide) (by omega) (by omega) (fun h64 => ?_) (fun h64 => ?_)
          · refine g_iload_n C dJ6_numberOfTrailingZeros_0f7a4_74 rfl ?_
            refine g_iload_n C dJ6_numberOfTrailingZeros_0f7a4_75 rfl ?_
            refine g_iconst C dJ6_numberOfTrailingZeros_0f7a4_76 ?_
            refine g_iushr (z := _) C dJ6_numberOfTrailingZeros_0f7a4_77 (i_ushr 1 (by omega) (by omega) (by decide)) ?_
            refine g_iadd C dJ6_numberOfTrailingZeros_0f7a4_78 ?_
            exact g_ireturn C hQ dJ6_numberOfTrailingZeros_0f7a4_79 (Nat.le_refl _) (Nat.le_refl _) ⟨⟨_, rfl, by omega, by omega⟩, rfl⟩
          · refine g_iinc C dJ6_numberOfTrailingZeros_0f7a4_67 rfl (by decide) rfl ?_
            refine g_iload_n C dJ6_numberOfTrailingZeros_0f7a4_70 rfl ?_
            refine g_iconst C dJ6_numberOfTrailingZeros_0f7a4_71 ?_
            refine g_iushr (z := _) C dJ6_numberOfTrailingZeros_0f7a4_72 (i_ushr 2 (by omega) (by omega) (by decide)) ?_
            refine g_istore_n C dJ6_numberOfTrailingZeros_0f7a4_73 (by decide) rfl ?_
            refine g_iload_n C dJ6_numberOfTrailingZeros_0f7a4_74 rfl ?_
            refine g_iload_n C dJ6_numberOfTrailingZeros_0f7a4_75 rfl ?_
            refine g_iconst C dJ6_numberOfTrailingZeros_0f7a4_76 ?_
            refine g_iushr (z := _) C dJ6_numberOfTrailingZeros_0f7a4_77 (i_ushr 1 (by omega) (by omega) (by decide)) ?_
            refine g_iadd C dJ6_numberOfTrailingZeros_0f7a4_78 ?_
            exact g_ireturn C hQ dJ6_numberOfTrailingZeros_0f7a4_79 (Nat.le_refl _) (Nat.le_refl _) ⟨⟨_, rfl, by omega, by omega⟩, rfl⟩
        · refine g_iinc C dJ6_numberOfTrailingZeros_0f7a4_55 rfl (by decide) rfl ?_
          refine g_iload_n C dJ6_numberOfTrailingZeros_0f7a4_58 rfl ?_
          refine g_iconst C dJ6_numberOfTrailingZeros_0f7a4_59 ?_
          refine g_iushr (z := _) C dJ6_numberOfTrailingZeros_0f7a4_60 (i_ushr 4 (by omega) (by omega) (by decide)) ?_
          refine g_istore_n C dJ6_numberOfTrailingZeros_0f7a4_61 (by decide) rfl ?_
          refine g_iload_n C dJ6_numberOfTrailingZeros_0f7a4_62 rfl ?_
          refine g_iconst C dJ6_numberOfTrailingZeros_0f7a4_63 ?_
          refine g_icmp_le (tgt := 74) C dJ6_numberOfTrailingZeros_0f7a4_64 (by decide) (by omega) (by omega) (fun h64 => ?_) (fun h64 => ?_)
          · refine g_iload_n C dJ6_numberOfTrailingZeros_0f7a4_74 rfl ?_
            refine g_iload_n C dJ6_numberOfTrailingZeros_0f7a4_75 rfl ?_
            refine g_iconst C dJ6_numberOfTrailingZeros_0f7a4_76 ?_
            refine g_iushr (z := _) C dJ6_numberOfTrailingZeros_0f7a4_77 (i_ushr 1 (by omega) (by omega) (by decide)) ?_
            refine g_iadd C dJ6_numberOfTrailingZeros_0f7a4_78 ?_
            exact g_ireturn C hQ dJ6_numberOfTrailingZeros_0f7a4_79 (Nat.le_refl _) (Nat.le_refl _) ⟨⟨_, rfl, by omega, by omega⟩, rfl⟩
          · refine g_iinc C dJ6_numberOfTrailingZeros_0f7a4_67 rfl (by decide) rfl ?_
            refine g_iload_n C dJ6_numberOfTrailingZeros_0f7a4_70 rfl ?_
            refine g_iconst C dJ6_numberOfTrailingZeros_0f7a4_71 ?_
            refine g_iushr (z := _) C dJ6_numberOfTrailingZeros_0f7a4_72 (i_ushr 2 (by omega) (by omega) (by decide)) ?_
            refine g_istore_n C dJ6_numberOfTrailingZeros_0f7a4_73 (by decide) rfl ?_
            refine g_iload_n C dJ6_numberOfTrailingZeros_0f7a4_74 rfl ?_
            refine g_iload_n C dJ6_numberOfTrailingZeros_0f7a4_75 rfl ?_
            refine g_iconst C dJ6_numberOfTrailingZeros_0f7a4_76 ?_
            refine g_iushr (z := _) C dJ6_numberOfTrailingZeros_0f7a4_77 (i_ushr 1 (by omega) (by omega) (by decide)) ?_
            refine g_iadd C dJ6_numberOfTrailingZeros_0f7a4_78 ?_
            exact g_ireturn C hQ dJ6_numberOfTrailingZeros_0f7a4_79 (Nat.le_refl _) (Nat.le_refl _) ⟨⟨_, rfl, by omega, by omega⟩, rfl⟩
    · refine g_iinc C dJ6_numberOfTrailingZeros_0f7a4_26 rfl (by decide) rfl ?_
      refine g_iload_n C dJ6_numberOfTrailingZeros_0f7a4_29 rfl ?_
      refine g_bipush C dJ6_numberOfTrailingZeros_0f7a4_30 (by decide) ?_
      refine g_iushr (z := _) C dJ6_numberOfTrailingZeros_0f7a4_32 (i_ushr 16 (by omega) (by omega) (by decide)) ?_
      refine g_istore_n C dJ6_numberOfTrailingZeros_0f7a4_33 (by decide) rfl ?_
      refine g_iload_n C dJ6_numberOfTrailingZeros_0f7a4_34 rfl ?_
      refine g_sipush C dJ6_numberOfTrailingZeros_0f7a4_35 (by decide) ?_
      refine g_icmp_le (tgt := 49) C dJ6_numberOfTrailingZeros_0f7a4_38 (by decide) (by omega) (by omega) (fun h38 => ?_) (fun h38 => ?_)
      · refine g_iload_n C dJ6_numberOfTrailingZeros_0f7a4_49 rfl ?_
        refine g_bipush C dJ6_numberOfTrailingZeros_0f7a4_50 (by decide) ?_
        refine g_icmp_le (tgt := 62) C dJ6_numberOfTrailingZeros_0f7a4_52 (by decide) (by omega) (by omega) (fun h52 => ?_) (fun h52 => ?_)
        · refine g_iload_n C dJ6_numberOfTrailingZeros_0f7a4_62 rfl ?_
          refine g_iconst C dJ6_numberOfTrailingZeros_0f7a4_63 ?_
          refine g_icmp_le (tgt := 74) C dJ6_numberOfTrailingZeros_0f7a4_64 (by decide) (by omega) (by omega) (fun h64 => ?_) (fun h64 => ?_)
          · refine g_iload_n C dJ6_numberOfTrailingZeros_0f7a4_74 rfl ?_
            refine g_iload_n C dJ6_numberOfTrailingZeros_0f7a4_75 rfl ?_
            refine g_iconst C dJ6_numberOfTrailingZeros_0f7a4_76 ?_
            refine g_iushr (z := _) C dJ6_numberOfTrailingZeros_0f7a4_77 (i_ushr 1 (by omega) (by omega) (by decide)) ?_
            refine g_iadd C dJ6_numberOfTrailingZeros_0f7a4_78 ?_
            exact g_ireturn C hQ dJ6_numberOfTrailingZeros_0f7a4_79 (Nat.le_refl _) (Nat.le_refl _) ⟨⟨_, rfl, by omega, by omega⟩, rfl⟩
          · refine g_iinc C dJ6_numberOfTrailingZeros_0f7a4_67 rfl (by decide) rfl ?_
            refine g_iload_n C dJ6_numberOfTrailingZeros_0f7a4_70 rfl ?_
            refine g_iconst C dJ6_numberOfTrailingZeros_0f7a4_71 ?_
            refine g_iushr (z := _) C dJ6_numberOfTrailingZeros_0f7a4_72 (i_ushr 2 (by omega) (by omega) (by decide)) ?_
            refine g_istore_n C dJ6_numberOfTrailingZeros_0f7a4_73 (by decide) rfl ?_
            refine g_iload_n C dJ6_numberOfTrailingZeros_0f7a4_74 rfl ?_
            refine g_iload_n C dJ6_numberOfTrailingZeros_0f7a4_75 rfl ?_
            refine g_iconst C dJ6_numberOfTrailingZeros_0f7a4_76 ?_
            refine g_iushr (z := _) C dJ6_numberOfTrailingZeros_0f7a4_77 (i_ushr 1 (by omega) (by omega) (by decide)) ?_
            refine g_iadd C dJ6_numberOfTrailingZeros_0f7a4_78 ?_
            exact g_ireturn C hQ dJ6_numberOfTrailingZeros_0f7a4_79 (Nat.le_refl _) (Nat.le_refl _) ⟨⟨_, rfl, by omega, by omega⟩, rfl⟩
        · refine g_iinc C dJ6_numberOfTrailingZeros_0f7a4_55 rfl (by decide) rfl ?_
          refine g_iload_n C dJ6_numberOfTrailingZeros_0f7a4_58 rfl ?_
          refine g_iconst C dJ6_numberOfTrailingZeros_0f7a4_59 ?_
          refine g_iushr (z := _) C dJ6_numberOfTrailingZeros_0f7a4_60 (i_ushr 4 (by omega) (by omega) (by decide)) ?_
          refine g_istore_n C dJ6_numberOfTrailingZeros_0f7a4_61 (by decide) rfl ?_
          refine g_iload_n C dJ6_numberOfTrailingZeros_0f7a4_62 rfl ?_
          refine g_iconst C dJ6_numberOfTrailingZeros_0f7a4_63 ?_
          refine g_icmp_le (tgt := 74) C dJ6_numberOfTrailingZeros_0f7a4_64 (by decide) (by omega) (by omega) (fun h64 => ?_) (fun h64 => ?_)
          · refine g_iload_n C dJ6_numberOfTrailingZeros_0f7a4_74 rfl ?_
            refine g_iload_n C dJ6_numberOfTrailingZeros_0f7a4_75 rfl ?_
            refine g_iconst C dJ6_numberOfTrailingZeros_0f7a4_76 ?_
            refine g_iushr (z := _) C dJ6_numberOfTrailingZeros_0f7a4_77 (i_ushr 1 (by omega) (by omega) (by decide)) ?_
            refine g_iadd C dJ6_numberOfTrailingZeros_0f7a4_78 ?_
            exact g_ireturn C hQ dJ6_numberOfTrailingZeros_0f7a4_79 (Nat.le_refl _) (Nat.le_refl _) ⟨⟨_, rfl, by omega, by omega⟩, rfl⟩
          · refine g_iinc C dJ6_numberOfTrailingZeros_0f7a4_67 rfl (by decide) rfl ?_
            refine g_iload_n C dJ6_numberOfTrailingZeros_0f7a4_70 rfl ?_
            refine g_iconst C dJ6_numberOfTrailingZeros_0f7a4_71 ?_
            refine g_iushr (z := _) C dJ6_numberOfTrailingZeros_0f7a4_72 (i_ushr 2 (by omega) (by omega) (by decide)) ?_
            refine g_istore_n C dJ6_numberOfTrailingZeros_0f7a4_73 (by decide) rfl ?_
            refine g_iload_n C dJ6_numberOfTrailingZeros_0f7a4_74 rfl ?_
            refine g_iload_n C dJ6_numberOfTrailingZeros_0f7a4_75 rfl ?_
            refine g_iconst C dJ6_numberOfTrailingZeros_0f7a4_76 ?_
            refine g_iushr (z := _) C dJ6_numberOfTrailingZeros_0f7a4_77 (i_ushr 1 (by omega) (by omega) (by decide)) ?_
            refine g_iadd C dJ6_numberOfTrailingZeros_0f7a4_78 ?_
            exact g_ireturn C hQ dJ6_numberOfTrailingZeros_0f7a4_79 (Nat.le_refl _) (Nat.le_refl _) ⟨⟨_, rfl, by omega, by omega⟩, rfl⟩
      · refine g_iinc C dJ6_numberOfTrailingZeros_0f7a4_41 rfl (by decide) rfl ?_
        refine g_iload_n C dJ6_numberOfTrailingZeros_0f7a4_44 rfl ?_
        refine g_bipush C dJ6_numberOfTrailingZeros_0f7a4_45 (by decide) ?_
        refine g_iushr (z := _) C dJ6_numberOfTrailingZeros_0f7a4_47 (i_ushr 8 (by omega) (by omega) (by decide)) ?_
        refine g_istore_n C dJ6_numberOfTrailingZeros_0f7a4_48 (by decide) rfl ?_
        refine g_iload_n C dJ6_numberOfTrailingZeros_0f7a4_49 rfl ?_
        refine g_bipush C dJ6_numberOfTrailingZeros_0f7a4_50 (by decide) ?_
        refine g_icmp_le (tgt := 62) C dJ6_numberOfTrailingZeros_0f7a4_52 (by decide) (by omega) (by omega) (fun h52 => ?_) (fun h52 => ?_)
        · refine g_iload_n C dJ6_numberOfTrailingZeros_0f7a4_62 rfl ?_
          refine g_iconst C dJ6_numberOfTrailingZeros_0f7a4_63 ?_
          refine g_icmp_le (tgt := 74) C dJ6_numberOfTrailingZeros_0f7a4_64 (by decide) (by omega) (by omega) (fun h64 => ?_) (fun h64 => ?_)
          · refine g_iload_n C dJ6_numberOfTrailingZeros_0f7a4_74 rfl ?_
            refine g_iload_n C dJ6_numberOfTrailingZeros_0f7a4_75 rfl ?_
            refine g_iconst C dJ6_numberOfTrailingZeros_0f7a4_76 ?_
            refine g_iushr (z := _) C dJ6_numberOfTrailingZeros_0f7a4_77 (i_ushr 1 (by omega) (by omega) (by decide)) ?_
            refine g_iadd C dJ6_numberOfTrailingZeros_0f7a4_78 ?_
            exact g_ireturn C hQ dJ6_numberOfTrailingZeros_0f7a4_79 (Nat.le_refl _) (Nat.le_refl _) ⟨⟨_, rfl, by omega, by omega⟩, rfl⟩
          · refine g_iinc C dJ6_numberOfTrailingZeros_0f7a4_67 rfl (by decide) rfl ?_
            refine g_iload_n C dJ6_numberOfTrailingZeros_0f7a4_70 rfl ?_
            refine g_iconst C dJ6_numberOfTrailingZeros_0f7a4_71 ?_
            refine g_iushr (z := _) C dJ6_numberOfTrailingZeros_0f7a4_72 (i_ushr 2 (by omega) (by omega) (by decide)) ?_
            refine g_istore_n C dJ6_numberOfTrailingZeros_0f7a4_73 (by decide) rfl ?_
            refine g_iload_n C dJ6_numberOfTrailingZeros_0f7a4_74 rfl ?_
            refine g_iload_n C dJ6_numberOfTrailingZeros_0f7a4_75 rfl ?_
            refine g_iconst C dJ6_numberOfTrailingZeros_0f7a4_76 ?_
            refine g_iushr (z := _) C dJ6_numberOfTrailingZeros_0f7a4_77 (i_ushr 1 (by omega) (by omega) (by decide)) ?_
            refine g_iadd C dJ6_numberOfTrailingZeros_0f7a4_78 ?_
            exact g_ireturn C hQ dJ6_numberOfTrailingZeros_0f7a4_79 (Nat.le_refl _) (Nat.le_refl _) ⟨⟨_, rfl, by omega, by omega⟩, rfl⟩
        · refine g_iinc C dJ6_numberOfTrailingZeros_0f7a4_55 rfl (by decide) rfl ?_
          refine g_iload_n C dJ6_numberOfTrailingZeros_0f7a4_58 rfl ?_
          refine g_iconst C dJ6_numberOfTrailingZeros_0f7a4_59 ?_
          refine g_iushr (z := _) C dJ6_numberOfTrailingZeros_0f7a4_60 (i_ushr 4 (by omega) (by omega) (by decide)) ?_
          refine g_istore_n C dJ6_numberOfTrailingZeros_0f7a4_61 (by decide) rfl ?_
          refine g_iload_n C dJ6_numberOfTrailingZeros_0f7a4_62 rfl ?_
          refine g_iconst C dJ6_numberOfTrailingZeros_0f7a4_63 ?_
          refine g_icmp_le (tgt := 74) C dJ6_numberOfTrailingZeros_0f7a4_64 (by decide) (by omega) (by omega) (fun h64 => ?_) (fun h64 => ?_)
          · refine g_iload_n C dJ6_numberOfTrailingZeros_0f7a4_74 rfl ?_
            refine g_iload_n C dJ6_numberOfTrailingZeros_0f7a4_75 rfl ?_
            refine g_iconst C dJ6_numberOfTrailingZeros_0f7a4_76 ?_
            refine g_iushr (z := _) C dJ6_numberOfTrailingZeros_0f7a4_77 (i_ushr 1 (by omega) (by omega) (by decide)) ?_
            refine g_iadd C dJ6_numberOfTrailingZeros_0f7a4_78 ?_
            exact g_ireturn C hQ dJ6_numberOfTrailingZeros_0f7a4_79 (Nat.le_refl _) (Nat.le_refl _) ⟨⟨_, rfl, by omega, by omega⟩, rfl⟩
          · refine g_iinc C dJ6_numberOfTrailingZeros_0f7a4_67 rfl (by decide) rfl ?_
            refine g_iload_n C dJ6_numberOfTrailingZeros_0f7a4_70 rfl ?_
            refine g_iconst C dJ6_numberOfTrailingZeros_0f7a4_71 ?_
            refine g_iushr (z := _) C dJ6_numberOfTrailingZeros_0f7a4_72 (i_ushr 2 (by omega) (by omega) (by decide)) ?_
            refine g_istore_n C dJ6_numberOfTrailingZeros_0f7a4_73 (by decide) rfl ?_
            refine g_iload_n C dJ6_numberOfTrailingZeros_0f7a4_74 rfl ?_
            refine g_iload_n C dJ6_numberOfTrailingZeros_0f7a4_75 rfl ?_
            refine g_iconst C dJ6_numberOfTrailingZeros_0f7a4_76 ?_
            refine g_iushr (z := _) C dJ6_numberOfTrailingZeros_0f7a4_77 (i_ushr 1 (by omega) (by omega) (by decide)) ?_
            refine g_iadd C dJ6_numberOfTrailingZeros_0f7a4_78 ?_
            exact g_ireturn C hQ dJ6_numberOfTrailingZeros_0f7a4_79 (Nat.le_refl _) (Nat.le_refl _) ⟨⟨_, rfl, by omega, by omega⟩, rfl⟩
  · refine g_iload_n C dJ6_numberOfTrailingZeros_0f7a4_12 rfl ?_
    refine g_bipush C dJ6_numberOfTrailingZeros_0f7a4_13 (by decide) ?_
    refine g_iand (z := z15) C dJ6_numberOfTrailingZeros_0f7a4_15 hz15 ?_
    exact g_ireturn C hQ dJ6_numberOfTrailingZeros_0f7a4_16 (Nat.le_refl _) (Nat.le_refl _) ⟨⟨_, rfl, by omega, by omega⟩, rfl⟩
set_option maxHeartbeats 4000000 in
set_option maxRecDepth 100000 in
theorem s_J6_bitCount_0f7a4 (l : Launch) {E : GE} {w : Wd} {x : Int} (hx : 0 ≤ x ∧ x < 2147483648) : Sp E l yJ6_bitCount_0f7a4 cJ6_bitCount_0f7a4 1 (some .int) 0 (0) (0) [iI x] w (fun r' w' => (∃ d : Int, r' = some (iI d) ∧ -2147483648 ≤ d ∧ d < 2147483648) ∧ w' = w) := by
  refine sp_intro [some (iI x)] rfl (Nat.le_of_ble_eq_true rfl) pn_J6 ?_
  intro X C hRm hl hnm hQ
  obtain ⟨hRf, hRl, hRc, hRs⟩ := hRm
  refine g_wf (fun hwf => ?_)
  obtain ⟨z3, hz3, hz3a, hz3b⟩ := gen32 (((Int32.ofInt (x)).toUInt32 >>> ((Int32.ofInt 1).toUInt32 &&& Int32.toUInt32 31)).toInt32)
  obtain ⟨z7, hz7, hz7a, hz7b⟩ := gen32 (Int32.ofInt (z3) &&& Int32.ofInt (1431655765))
  obtain ⟨z14, hz14, hz14a, hz14b⟩ := gen32 (Int32.ofInt (x - z7) &&& Int32.ofInt (858993459))
  obtain ⟨z17, hz17, hz17a, hz17b⟩ := gen32 (((Int32.ofInt (x - z7)).toUInt32 >>> ((Int32.ofInt 2).toUInt32 &&& Int32.toUInt32 31)).toInt32)
  obtain ⟨z21, hz21, hz21a, hz21b⟩ := gen32 (Int32.ofInt (z17) &&& Int32.ofInt (858993459))
  obtain ⟨z27, hz27, hz27a, hz27b⟩ := gen32 (((Int32.ofInt (z14 + z21)).toUInt32 >>> ((Int32.ofInt 4).toUInt32 &&& Int32.toUInt32 31)).toInt32)
  obtain ⟨z32, hz32, hz32a, hz32b⟩ := gen32 (Int32.ofInt (z14 + z21 + z27) &&& Int32.ofInt (252645135))
  obtain ⟨z38, hz38, hz38a, hz38b⟩ := gen32 (((Int32.ofInt (z32)).toUInt32 >>> ((Int32.ofInt 8).toUInt32 &&& Int32.toUInt32 31)).toInt32)
  obtain ⟨z45, hz45, hz45a, hz45b⟩ := gen32 (((Int32.ofInt (z32 + z38)).toUInt32 >>> ((Int32.ofInt 16).toUInt32 &&& Int32.toUInt32 31)).toInt32)
  obtain ⟨z51, hz51, hz51a, hz51b⟩ := gen32 (Int32.ofInt (z32 + z38 + z45) &&& Int32.ofInt (63))
  refine g_iload_n C dJ6_bitCount_0f7a4_0 rfl ?_
  refine g_iload_n C dJ6_bitCount_0f7a4_1 rfl ?_
  refine g_iconst C dJ6_bitCount_0f7a4_2 ?_
  refine g_iushr (z := z3) C dJ6_bitCount_0f7a4_3 hz3 ?_
  refine g_ldcw (z := 1431655765) C ko_RJ6_265 (by decide) dJ6_bitCount_0f7a4_4 ?_
  refine g_iand (z := z7) C dJ6_bitCount_0f7a4_7 hz7 ?_
  refine g_isub C dJ6_bitCount_0f7a4_8 ?_
  refine g_istore_n C dJ6_bitCount_0f7a4_9 (by decide) rfl ?_
  refine g_iload_n C dJ6_bitCount_0f7a4_10 rfl ?_
  refine g_ldcw (z := 858993459) C ko_RJ6_266 (by decide) dJ6_bitCount_0f7a4_11 ?_
  refine g_iand (z := z14) C dJ6_bitCount_0f7a4_14 hz14 ?_
  refine g_iload_n C dJ6_bitCount_0f7a4_15 rfl ?_
  refine g_iconst C dJ6_bitCount_0f7a4_16 ?_
  refine g_iushr (z := z17) C dJ6_bitCount_0f7a4_17 hz17 ?_
  refine g_ldcw (z := 858993459) C ko_RJ6_266 (by decide) dJ6_bitCount_0f7a4_18 ?_
  refine g_iand (z := z21) C dJ6_bitCount_0f7a4_21 hz21 ?_
  refine g_iadd C dJ6_bitCount_0f7a4_22 ?_
  refine g_istore_n C dJ6_bitCount_0f7a4_23 (by decide) rfl ?_
  refine g_iload_n C dJ6_bitCount_0f7a4_24 rfl ?_
  refine g_iload_n C dJ6_bitCount_0f7a4_25 rfl ?_
  refine g_iconst C dJ6_bitCount_0f7a4_26 ?_
  refine g_iushr (z := z27) C dJ6_bitCount_0f7a4_27 hz27 ?_
  refine g_iadd C dJ6_bitCount_0f7a4_28 ?_
  refine g_ldcw (z := 252645135) C ko_RJ6_267 (by decide) dJ6_bitCount_0f7a4_29 ?_
  refine g_iand (z := z32) C dJ6_bitCount_0f7a4_32 hz32 ?_
  refine g_istore_n C dJ6_bitCount_0f7a4_33 (by decide) rfl ?_
  refine g_iload_n C dJ6_bitCount_0f7a4_34 rfl ?_
  refine g_iload_n C dJ6_bitCount_0f7a4_35 rfl ?_
  refine g_bipush C dJ6_bitCount_0f7a4_36 (by decide) ?_
  refine g_iushr (z := z38) C dJ6_bitCount_0f7a4_38 hz38 ?_
  refine g_iadd C dJ6_bitCount_0f7a4_39 ?_
  refine g_istore_n C dJ6_bitCount_0f7a4_40 (by decide) rfl ?_
  refine g_iload_n C dJ6_bitCount_0f7a4_41 rfl ?_
  refine g_iload_n C dJ6_bitCount_0f7a4_42 rfl ?_
  refine g_bipush C dJ6_bitCount_0f7a4_43 (by decide) ?_
  refine g_iushr (z := z45) C dJ6_bitCount_0f7a4_45 hz45 ?_
  refine g_iadd C dJ6_bitCount_0f7a4_46 ?_
  refine g_istore_n C dJ6_bitCount_0f7a4_47 (by decide) rfl ?_
  refine g_iload_n C dJ6_bitCount_0f7a4_48 rfl ?_
  refine g_bipush C dJ6_bitCount_0f7a4_49 (by decide) ?_
  refine g_iand (z := z51) C dJ6_bitCount_0f7a4_51 hz51 ?_
  exact g_ireturn C hQ dJ6_bitCount_0f7a4_52 (Nat.le_refl _) (Nat.le_refl _) ⟨⟨_, rfl, by omega, by omega⟩, rfl⟩
set_option maxHeartbeats 4000000 in
set_option maxRecDepth 100000 in
theorem s_X5_bits (l : Launch) {E : GE} {w : Wd} {a r : Nat} (hW : WS w a r) : Sp E l yX5_bits cX5_bits 2 (some .int) 1 (0) (0) [.ref a] w (fun r' w' => (∃ d : Int, r' = some (iI d) ∧ 0 ≤ d ∧ d ≤ 508) ∧ w' = w) := by
  refine sp_intro [some (.ref a), none] rfl (Nat.le_of_ble_eq_true rfl) pn_X5 ?_
  intro X C hRm hl hnm hQ
  obtain ⟨hRf, hRl, hRc, hRs⟩ := hRm
  refine g_wf (fun hwf => ?_)
  have hB28 : B28 = 268435456 := rfl
  obtain ⟨f, u, bl, hO, hR, hf, hu18, hbl⟩ := id hW
  have hne := oI_ne hO hR
  refine g_aload_n C dX5_bits_0 rfl ?_
  refine g_get (ci := 7) C rfl inTX5 1 (by decide) fl_RX5_17 rfl hO rfl dX5_bits_1 ?_
  refine g_iconst C dX5_bits_4 ?_
  refine g_icmp_lt (tgt := 17) C dX5_bits_5 (by decide) (by omega) (by omega) (fun h5 => ?_) (fun h5 => ?_)
  · refine g_iconst C dX5_bits_17 ?_
    exact g_ireturn C hQ dX5_bits_18 (Nat.le_refl _) (Nat.le_refl _) ⟨⟨0, rfl, by omega, by omega⟩, rfl⟩
  · refine g_aload_n C dX5_bits_8 rfl ?_
    refine g_get (ci := 7) C rfl inTX5 1 (by decide) fl_RX5_17 rfl hO rfl dX5_bits_9 ?_
    refine g_bipush C dX5_bits_12 (by decide) ?_
    refine g_icmp_le (tgt := 19) C dX5_bits_14 (by decide) (by omega) (by omega) (fun h14 => ?_) (fun h14 => ?_)
    · refine g_bipush C dX5_bits_19 (by decide) ?_
      refine g_aload_n C dX5_bits_21 rfl ?_
      refine g_get (ci := 7) C rfl inTX5 0 (by decide) fl_RX5_9 rfl hO rfl dX5_bits_22 ?_
      refine g_aload_n C dX5_bits_25 rfl ?_
      refine g_get (ci := 7) C rfl inTX5 1 (by decide) fl_RX5_17 rfl hO rfl dX5_bits_26 ?_
      refine g_iconst C dX5_bits_29 ?_
      refine g_isub C dX5_bits_30 ?_
      refine g_iaload C hR (by omega) dX5_bits_31 ?_
      have hfu : 0 ≤ f ((u : Int) - 1).toNat ∧ f ((u : Int) - 1).toNat < 2147483648 := by have := hf ((u : Int) - 1).toNat (by omega); omega
      refine g_callS C (s_J6_numberOfLeadingZeros_0f7a4 _ hfu) ml_RX5_70 sm_yJ6_numberOfLeadingZeros_0f7a4 in_RJ6 co_yJ6_numberOfLeadingZeros_0f7a4 hd_J6_numberOfLeadingZeros_0f7a4 rfl ⟨by omega, by omega⟩ rfl (Nat.le_of_ble_eq_true rfl) ⟨by omega, by omega⟩ dX5_bits_32 (fun v32 w32 hp32 => ?_)
      obtain ⟨⟨d32, rfl, hd32⟩, hw32⟩ := hp32
      subst w32
      refine g_isub C dX5_bits_35 ?_
      refine g_istore_n C dX5_bits_36 (by decide) rfl ?_
      refine g_aload_n C dX5_bits_37 rfl ?_
      refine g_get (ci := 7) C rfl inTX5 1 (by decide) fl_RX5_17 rfl hO rfl dX5_bits_38 ?_
      refine g_iconst C dX5_bits_41 ?_
      refine g_isub C dX5_bits_42 ?_
      refine g_bipush C dX5_bits_43 (by decide) ?_
      refine g_imul C dX5_bits_45 ?_
      refine g_iload_n C dX5_bits_46 rfl ?_
      refine g_iadd C dX5_bits_47 ?_
      exact g_ireturn C hQ dX5_bits_48 (Nat.le_refl _) (Nat.le_refl _) ⟨⟨_, rfl, by omega, by omega⟩, rfl⟩
    · refine g_iconst C dX5_bits_17 ?_
      exact g_ireturn C hQ dX5_bits_18 (Nat.le_refl _) (Nat.le_refl _) ⟨⟨0, rfl, by omega, by omega⟩, rfl⟩
theorem iI_r (c : Int) : ∃ d : Int, some (iI c) = some (iI d) ∧ -2147483648 ≤ d ∧ d < 2147483648 := by
  obtain ⟨z, hz, h1, h2⟩ := gen32 (Int32.ofInt c)
  exact ⟨z, by unfold iI; rw [hz], h1, h2⟩
set_option maxHeartbeats 4000000 in
set_option maxRecDepth 100000 in
theorem s_X5_ones (l : Launch) {E : GE} {w : Wd} {a r : Nat} (hW : WS w a r) : Sp E l yX5_ones cX5_ones 3 (some .int) 1 (0) (0) [.ref a] w (fun r' w' => (∃ d : Int, r' = some (iI d) ∧ -2147483648 ≤ d ∧ d < 2147483648) ∧ w' = w) := by
  refine sp_intro [some (.ref a), none, none] rfl (Nat.le_of_ble_eq_true rfl) pn_X5 ?_
  intro X C hRm hl hnm hQ
  obtain ⟨hRf, hRl, hRc, hRs⟩ := hRm
  refine g_wf (fun hwf => ?_)
  have hB28 : B28 = 268435456 := rfl
  obtain ⟨f, u, bl, hO, hR, hf, hu18, hbl⟩ := id hW
  have hne := oI_ne hO hR
  refine g_iconst C dX5_ones_0 ?_
  refine g_istore_n C dX5_ones_1 (by decide) rfl ?_
  refine g_iconst C dX5_ones_2 ?_
  refine g_istore_n C dX5_ones_3 (by decide) rfl ?_
  refine g_loop (σ := Nat × Int) (fun s => s.1 ≤ 18) (fun s => G E X 3 4 [some (.ref a), some (iI s.2), some (iI (s.1 : Int))] [] w 0 0) (fun s => 18 - s.1) ?_ (0, 0) (by dsimp only; omega)
  rintro ⟨j, c⟩ hj ih
  dsimp only at hj ⊢
  refine g_iload_n C dX5_ones_4 rfl ?_
  refine g_bipush C dX5_ones_5 (by decide) ?_
  refine g_icmp_ge (tgt := 28) C dX5_ones_7 (by decide) (by omega) (by omega) (fun h7 => ?_) (fun h7 => ?_)
  · refine g_iload_n C dX5_ones_28 rfl ?_
    exact g_ireturn C hQ dX5_ones_29 (Nat.le_refl _) (Nat.le_refl _) ⟨iI_r _, rfl⟩
  · have hfj := hf j (by omega)
    refine g_iload_n C dX5_ones_10 rfl ?_
    refine g_aload_n C dX5_ones_11 rfl ?_
    refine g_get (ci := 7) C rfl inTX5 0 (by decide) fl_RX5_9 rfl hO rfl dX5_ones_12 ?_
    refine g_iload_n C dX5_ones_15 rfl ?_
    refine g_ialoadN (j) C hR (by omega) (by omega) dX5_ones_16 ?_
    refine g_callS C (s_J6_bitCount_0f7a4 _ (x := f j) (by omega)) ml_RX5_76 sm_yJ6_bitCount_0f7a4 in_RJ6 co_yJ6_bitCount_0f7a4 hd_J6_bitCount_0f7a4 rfl ⟨by omega, by omega⟩ rfl (Nat.le_of_ble_eq_true rfl) ⟨by omega, by omega⟩ dX5_ones_17 (fun v17 w17 hp17 => ?_)
    obtain ⟨⟨d17, rfl, hd17⟩, hw17⟩ := hp17
    subst w17
    refine g_iadd C dX5_ones_20 ?_
    refine g_istore_n C dX5_ones_21 (by decide) rfl ?_
    refine g_iinc C dX5_ones_22 rfl (by decide) rfl ?_
    refine g_goto (tgt := 4) C dX5_ones_25 (by decide) ?_
    exact ih (j + 1, c + d17) (by dsimp only; omega) (by dsimp only; omega)
set_option maxHeartbeats 4000000 in
set_option maxRecDepth 100000 in
theorem s_X5_zerosBehind (l : Launch) {E : GE} {w : Wd} {a r : Nat} (hW : WS w a r) : Sp E l yX5_zerosBehind cX5_zerosBehind 2 (some .int) 1 (0) (0) [.ref a] w (fun r' w' => (∃ d : Int, r' = some (iI d) ∧ -2147483648 ≤ d ∧ d < 2147483648) ∧ w' = w) := by
  refine sp_intro [some (.ref a), none] rfl (Nat.le_of_ble_eq_true rfl) pn_X5 ?_
  intro X C hRm hl hnm hQ
  obtain ⟨hRf, hRl, hRc, hRs⟩ := hRm
  refine g_wf (fun hwf => ?_)
  have hB28 : B28 = 268435456 := rfl
  obtain ⟨f, u, bl, hO, hR, hf, hu18, hbl⟩ := id hW
  have hne := oI_ne hO hR
  refine g_iconst C dX5_zerosBehind_0 ?_
  refine g_istore_n C dX5_zerosBehind_1 (by decide) rfl ?_
  refine g_loop (σ := Nat) (fun s => s ≤ 18) (fun s => G E X 2 2 [some (.ref a), some (iI (s : Int))] [] w 0 0) (fun s => 18 - s) ?_ 0 (by omega)
  rintro j hj ih
  refine g_iload_n C dX5_zerosBehind_2 rfl ?_
  refine g_bipush C dX5_zerosBehind_3 (by decide) ?_
  refine g_icmp_ge (tgt := 38) C dX5_zerosBehind_5 (by decide) (by omega) (by omega) (fun h5 => ?_) (fun h5 => ?_)
  · refine g_iconst C dX5_zerosBehind_38 ?_
    exact g_ireturn C hQ dX5_zerosBehind_39 (Nat.le_refl _) (Nat.le_refl _) ⟨iI_r _, rfl⟩
  · have hfj := hf j (by omega)
    refine g_aload_n C dX5_zerosBehind_8 rfl ?_
    refine g_get (ci := 7) C rfl inTX5 0 (by decide) fl_RX5_9 rfl hO rfl dX5_zerosBehind_9 ?_
    refine g_iload_n C dX5_zerosBehind_12 rfl ?_
    refine g_ialoadN (j) C hR (by omega) (by omega) dX5_zerosBehind_13 ?_
    refine g_if_eq (tgt := 32) C dX5_zerosBehind_14 (by decide) (by omega) (fun h14 => ?_) (fun h14 => ?_)
    · refine g_iinc C dX5_zerosBehind_32 rfl (by decide) rfl ?_
      refine g_goto (tgt := 2) C dX5_zerosBehind_35 (by decide) ?_
      exact ih (j + 1) (by omega) (by omega)
    · refine g_iload_n C dX5_zerosBehind_17 rfl ?_
      refine g_bipush C dX5_zerosBehind_18 (by decide) ?_
      refine g_imul C dX5_zerosBehind_20 ?_
      refine g_aload_n C dX5_zerosBehind_21 rfl ?_
      refine g_get (ci := 7) C rfl inTX5 0 (by decide) fl_RX5_9 rfl hO rfl dX5_zerosBehind_22 ?_
      refine g_iload_n C dX5_zerosBehind_25 rfl ?_
      refine g_ialoadN (j) C hR (by omega) (by omega) dX5_zerosBehind_26 ?_
      refine g_callS C (s_J6_numberOfTrailingZeros_0f7a4 _ (x := f j) (by omega)) ml_RX5_79 sm_yJ6_numberOfTrailingZeros_0f7a4 in_RJ6 co_yJ6_numberOfTrailingZeros_0f7a4 hd_J6_numberOfTrailingZeros_0f7a4 rfl ⟨by omega, by omega⟩ rfl (Nat.le_of_ble_eq_true rfl) ⟨by omega, by omega⟩ dX5_zerosBehind_27 (fun v27 w27 hp27 => ?_)
      obtain ⟨⟨d27, rfl, hd27⟩, hw27⟩ := hp27
      subst w27
      refine g_iadd C dX5_zerosBehind_30 ?_
      exact g_ireturn C hQ dX5_zerosBehind_31 (Nat.le_refl _) (Nat.le_refl _) ⟨iI_r _, rfl⟩
set_option maxHeartbeats 4000000 in
set_option maxRecDepth 100000 in
theorem s_X5_hasBit (l : Launch) {E : GE} {w : Wd} {a r : Nat} (hW : WS w a r) {p : Int} (hp : 0 ≤ p ∧ p ≤ 1000) : Sp E l yX5_hasBit cX5_hasBit 3 (some .boolean) 0 (0) (0) [.ref a, iI p] w (fun r' w' => (∃ d : Int, r' = some (iI d) ∧ (d = 0 ∨ d = 1)) ∧ w' = w) := by
  refine sp_intro [some (.ref a), some (iI p), none] rfl (Nat.le_of_ble_eq_true rfl) pn_X5 ?_
  intro X C hRm hl hnm hQ
  obtain ⟨hRf, hRl, hRc, hRs⟩ := hRm
  refine g_wf (fun hwf => ?_)
  have hB28 : B28 = 268435456 := rfl
  obtain ⟨f, u, bl, hO, hR, hf, hu18, hbl⟩ := id hW
  have hne := oI_ne hO hR
  refine g_iload_n C dX5_hasBit_0 rfl ?_
  refine g_if_ge (tgt := 9) C dX5_hasBit_1 (by decide) (by omega) (fun h1 => ?_) (fun h1 => ?_)
  · refine g_iload_n C dX5_hasBit_9 rfl ?_
    refine g_bipush C dX5_hasBit_10 (by decide) ?_
    refine g_idivN C dX5_hasBit_12 (by omega) (by omega) ?_
    refine g_istore_n C dX5_hasBit_13 (by decide) rfl ?_
    refine g_iload_n C dX5_hasBit_14 rfl ?_
    refine g_bipush C dX5_hasBit_15 (by decide) ?_
    refine g_icmp_ge (tgt := 41) C dX5_hasBit_17 (by decide) (by omega) (by omega) (fun h17 => ?_) (fun h17 => ?_)
    · refine g_iconst C dX5_hasBit_41 ?_
      exact g_zreturn C hQ dX5_hasBit_42 (nar01 (by omega)) (Nat.le_refl _) (Nat.le_refl _) ⟨⟨_, rfl, by omega⟩, rfl⟩
    · have hfj := hf (p / 28).toNat (by omega)
      obtain ⟨z30, hz30, hz30a, hz30b⟩ := gen32 (((Int32.ofInt (f (p / 28).toNat)).toUInt32 >>> ((Int32.ofInt (p % 28)).toUInt32 &&& Int32.toUInt32 31)).toInt32)
      obtain ⟨z32, hz32, hz32a, hz32b⟩ := gen32 (Int32.ofInt z30 &&& Int32.ofInt 1)
      refine g_aload_n C dX5_hasBit_20 rfl ?_
      refine g_get (ci := 7) C rfl inTX5 0 (by decide) fl_RX5_9 rfl hO rfl dX5_hasBit_21 ?_
      refine g_iload_n C dX5_hasBit_24 rfl ?_
      refine g_iaload C hR (by omega) dX5_hasBit_25 ?_
      refine g_iload_n C dX5_hasBit_26 rfl ?_
      refine g_bipush C dX5_hasBit_27 (by decide) ?_
      refine g_iremN C dX5_hasBit_29 (by omega) (by omega) ?_
      refine g_iushr (z := z30) C dX5_hasBit_30 hz30 ?_
      refine g_iconst C dX5_hasBit_31 ?_
      refine g_iand (z := z32) C dX5_hasBit_32 hz32 ?_
      refine g_iconst C dX5_hasBit_33 ?_
      refine g_icmp_ne (tgt := 41) C dX5_hasBit_34 (by decide) (by omega) (by omega) (fun h34 => ?_) (fun h34 => ?_)
      · refine g_iconst C dX5_hasBit_41 ?_
        exact g_zreturn C hQ dX5_hasBit_42 (nar01 (by omega)) (Nat.le_refl _) (Nat.le_refl _) ⟨⟨_, rfl, by omega⟩, rfl⟩
      · refine g_iconst C dX5_hasBit_37 ?_
        refine g_goto (tgt := 42) C dX5_hasBit_38 (by decide) ?_
        exact g_zreturn C hQ dX5_hasBit_42 (nar01 (by omega)) (Nat.le_refl _) (Nat.le_refl _) ⟨⟨_, rfl, by omega⟩, rfl⟩
  · omega
set_option maxHeartbeats 4000000 in
set_option maxRecDepth 100000 in
theorem s_X5_lowBits (l : Launch) {E : GE} {w : Wd} {a r : Nat} (hW : WS w a r) : Sp E l yX5_lowBits cX5_lowBits 3 (some .long) 0 (0) (0) [.ref a] w (fun r' w' => (∃ d : Int, r' = some (jJ d)) ∧ w' = w) := by
  refine sp_intro [some (.ref a), none, none] rfl (Nat.le_of_ble_eq_true rfl) pn_X5 ?_
  intro X C hRm hl hnm hQ
  obtain ⟨hRf, hRl, hRc, hRs⟩ := hRm
  refine g_wf (fun hwf => ?_)
  have hB28 : B28 = 268435456 := rfl
  obtain ⟨f, u, bl, hO, hR, hf, hu18, hbl⟩ := id hW
  have hne := oI_ne hO hR
  have hf0 := hf 0 (by omega)
  have hf1 := hf 1 (by omega)
  have hf2 := hf 2 (by omega)
  obtain ⟨z16, hz16, -, -⟩ := gen64 (Int64.ofInt (f 1) <<< ((Int32.ofInt 28).toInt64 &&& 63))
  obtain ⟨z17, hz17, -, -⟩ := gen64 (Int64.ofInt (f 0) ||| Int64.ofInt z16)
  obtain ⟨z27, hz27, -, -⟩ := gen64 (Int64.ofInt (f 2) <<< ((Int32.ofInt 56).toInt64 &&& 63))
  obtain ⟨z28, hz28, -, -⟩ := gen64 (Int64.ofInt z17 ||| Int64.ofInt z27)
  refine g_aload_n C dX5_lowBits_0 rfl ?_
  refine g_get (ci := 7) C rfl inTX5 0 (by decide) fl_RX5_9 rfl hO rfl dX5_lowBits_1 ?_
  refine g_iconst C dX5_lowBits_4 ?_
  refine g_ialoadN (0) C hR (by omega) (by omega) dX5_lowBits_5 ?_
  refine g_i2l C dX5_lowBits_6 (by omega) ?_
  refine g_aload_n C dX5_lowBits_7 rfl ?_
  refine g_get (ci := 7) C rfl inTX5 0 (by decide) fl_RX5_9 rfl hO rfl dX5_lowBits_8 ?_
  refine g_iconst C dX5_lowBits_11 ?_
  refine g_ialoadN (1) C hR (by omega) (by omega) dX5_lowBits_12 ?_
  refine g_i2l C dX5_lowBits_13 (by omega) ?_
  refine g_bipush C dX5_lowBits_14 (by decide) ?_
  refine g_lshl (z := z16) C dX5_lowBits_16 hz16 ?_
  refine g_lor (z := z17) C dX5_lowBits_17 hz17 ?_
  refine g_aload_n C dX5_lowBits_18 rfl ?_
  refine g_get (ci := 7) C rfl inTX5 0 (by decide) fl_RX5_9 rfl hO rfl dX5_lowBits_19 ?_
  refine g_iconst C dX5_lowBits_22 ?_
  refine g_ialoadN (2) C hR (by omega) (by omega) dX5_lowBits_23 ?_
  refine g_i2l C dX5_lowBits_24 (by omega) ?_
  refine g_bipush C dX5_lowBits_25 (by decide) ?_
  refine g_lshl (z := z27) C dX5_lowBits_27 hz27 ?_
  refine g_lor (z := z28) C dX5_lowBits_28 hz28 ?_
  refine g_lstore_n C dX5_lowBits_29 (by decide) rfl ?_
  refine g_aload_n C dX5_lowBits_30 rfl ?_
  refine g_get (ci := 7) C rfl inTX5 2 (by decide) fl_RX5_13 rfl hO rfl dX5_lowBits_31 ?_
  refine g_if_eq (tgt := 42) C dX5_lowBits_34 (by decide) (by omega) (fun h34 => ?_) (fun h34 => ?_)
  · refine g_lload_n C dX5_lowBits_42 rfl ?_
    exact g_lreturn C hQ dX5_lowBits_43 (Nat.le_refl _) (Nat.le_refl _) ⟨⟨_, rfl⟩, rfl⟩
  · refine g_lload_n C dX5_lowBits_37 rfl ?_
    refine g_lneg C dX5_lowBits_38 ?_
    refine g_goto (tgt := 43) C dX5_lowBits_39 (by decide) ?_
    exact g_lreturn C hQ dX5_lowBits_43 (Nat.le_refl _) (Nat.le_refl _) ⟨⟨_, rfl⟩, rfl⟩
