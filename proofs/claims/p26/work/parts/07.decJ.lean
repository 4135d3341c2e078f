theorem do_b2 {c : ByteArray} {p : Nat} {a b : UInt8} {t : List UInt8} (h : c.data.toList.drop p = (0xb2 : UInt8) :: a :: b :: t) : decode c p = .ok (.getstatic (a.toNat * 256 + b.toNat), 3) := dec_of (by
  unfold Decoder.instr
  exact (bind_at (u1_at h)).trans ((bind_at (u2_at (dr1 h))).trans rfl))
theorem do_5a {c : ByteArray} {p : Nat} {t : List UInt8} (h : c.data.toList.drop p = (0x5a : UInt8) :: t) : decode c p = .ok (.dup_x1, 1) := dec_of (by
  unfold Decoder.instr
  exact (bind_at (u1_at h)).trans rfl)
theorem do_3b {c : ByteArray} {p : Nat} {t : List UInt8} (h : c.data.toList.drop p = (0x3b : UInt8) :: t) : decode c p = .ok (.istore_n 0, 1) := dec_of (by
  unfold Decoder.instr
  exact (bind_at (u1_at h)).trans rfl)
theorem do_82 {c : ByteArray} {p : Nat} {t : List UInt8} (h : c.data.toList.drop p = (0x82 : UInt8) :: t) : decode c p = .ok (.ixor, 1) := dec_of (by
  unfold Decoder.instr
  exact (bind_at (u1_at h)).trans rfl)
theorem do_83 {c : ByteArray} {p : Nat} {t : List UInt8} (h : c.data.toList.drop p = (0x83 : UInt8) :: t) : decode c p = .ok (.lxor, 1) := dec_of (by
  unfold Decoder.instr
  exact (bind_at (u1_at h)).trans rfl)
def TJ5_init_d00df_39 : List UInt8 := []
def TJ5_init_d00df_38 : List UInt8 := 177 :: TJ5_init_d00df_39
def TJ5_init_d00df_35 : List UInt8 := 181 :: 0 :: 22 :: TJ5_init_d00df_38
def TJ5_init_d00df_34 : List UInt8 := 4 :: TJ5_init_d00df_35
def TJ5_init_d00df_33 : List UInt8 := 42 :: TJ5_init_d00df_34
def TJ5_init_d00df_30 : List UInt8 := 181 :: 0 :: 15 :: TJ5_init_d00df_33
def TJ5_init_d00df_27 : List UInt8 := 184 :: 0 :: 26 :: TJ5_init_d00df_30
def TJ5_init_d00df_26 : List UInt8 := 27 :: TJ5_init_d00df_27
def TJ5_init_d00df_25 : List UInt8 := 42 :: TJ5_init_d00df_26
def TJ5_init_d00df_22 : List UInt8 := 167 :: 0 :: 16 :: TJ5_init_d00df_25
def TJ5_init_d00df_19 : List UInt8 := 181 :: 0 :: 22 :: TJ5_init_d00df_22
def TJ5_init_d00df_18 : List UInt8 := 3 :: TJ5_init_d00df_19
def TJ5_init_d00df_17 : List UInt8 := 42 :: TJ5_init_d00df_18
def TJ5_init_d00df_14 : List UInt8 := 181 :: 0 :: 15 :: TJ5_init_d00df_17
def TJ5_init_d00df_12 : List UInt8 := 188 :: 8 :: TJ5_init_d00df_14
def TJ5_init_d00df_11 : List UInt8 := 27 :: TJ5_init_d00df_12
def TJ5_init_d00df_10 : List UInt8 := 42 :: TJ5_init_d00df_11
def TJ5_init_d00df_7 : List UInt8 := 153 :: 0 :: 18 :: TJ5_init_d00df_10
def TJ5_init_d00df_4 : List UInt8 := 178 :: 0 :: 18 :: TJ5_init_d00df_7
def TJ5_init_d00df_1 : List UInt8 := 183 :: 0 :: 3 :: TJ5_init_d00df_4
def TJ5_init_d00df_0 : List UInt8 := 42 :: TJ5_init_d00df_1
theorem DJ5_init_d00df_0 : cJ5_init_d00df.data.toList.drop 0 = TJ5_init_d00df_0 := by decide +kernel
theorem DJ5_init_d00df_1 : cJ5_init_d00df.data.toList.drop 1 = TJ5_init_d00df_1 := dr1 DJ5_init_d00df_0
theorem DJ5_init_d00df_4 : cJ5_init_d00df.data.toList.drop 4 = TJ5_init_d00df_4 := dr3 DJ5_init_d00df_1
theorem DJ5_init_d00df_7 : cJ5_init_d00df.data.toList.drop 7 = TJ5_init_d00df_7 := dr3 DJ5_init_d00df_4
theorem DJ5_init_d00df_10 : cJ5_init_d00df.data.toList.drop 10 = TJ5_init_d00df_10 := dr3 DJ5_init_d00df_7
theorem DJ5_init_d00df_11 : cJ5_init_d00df.data.toList.drop 11 = TJ5_init_d00df_11 := dr1 DJ5_init_d00df_10
theorem DJ5_init_d00df_12 : cJ5_init_d00df.data.toList.drop 12 = TJ5_init_d00df_12 := dr1 DJ5_init_d00df_11
theorem DJ5_init_d00df_14 : cJ5_init_d00df.data.toList.drop 14 = TJ5_init_d00df_14 := dr2 DJ5_init_d00df_12
theorem DJ5_init_d00df_17 : cJ5_init_d00df.data.toList.drop 17 = TJ5_init_d00df_17 := dr3 DJ5_init_d00df_14
theorem DJ5_init_d00df_18 : cJ5_init_d00df.data.toList.drop 18 = TJ5_init_d00df_18 := dr1 DJ5_init_d00df_17
theorem DJ5_init_d00df_19 : cJ5_init_d00df.data.toList.drop 19 = TJ5_init_d00df_19 := dr1 DJ5_init_d00df_18
theorem DJ5_init_d00df_22 : cJ5_init_d00df.data.toList.drop 22 = TJ5_init_d00df_22 := dr3 DJ5_init_d00df_19
theorem DJ5_init_d00df_25 : cJ5_init_d00df.data.toList.drop 25 = TJ5_init_d00df_25 := dr3 DJ5_init_d00df_22
theorem DJ5_init_d00df_26 : cJ5_init_d00df.data.toList.drop 26 = TJ5_init_d00df_26 := dr1 DJ5_init_d00df_25
theorem DJ5_init_d00df_27 : cJ5_init_d00df.data.toList.drop 27 = TJ5_init_d00df_27 := dr1 DJ5_init_d00df_26
theorem DJ5_init_d00df_30 : cJ5_init_d00df.data.toList.drop 30 = TJ5_init_d00df_30 := dr3 DJ5_init_d00df_27
theorem DJ5_init_d00df_33 : cJ5_init_d00df.data.toList.drop 33 = TJ5_init_d00df_33 := dr3 DJ5_init_d00df_30
theorem DJ5_init_d00df_34 : cJ5_init_d00df.data.toList.drop 34 = TJ5_init_d00df_34 := dr1 DJ5_init_d00df_33
theorem DJ5_init_d00df_35 : cJ5_init_d00df.data.toList.drop 35 = TJ5_init_d00df_35 := dr1 DJ5_init_d00df_34
theorem DJ5_init_d00df_38 : cJ5_init_d00df.data.toList.drop 38 = TJ5_init_d00df_38 := dr3 DJ5_init_d00df_35
theorem dJ5_init_d00df_0 : decode cJ5_init_d00df 0 = .ok (.aload_n 0, 1) := do_2a DJ5_init_d00df_0
theorem dJ5_init_d00df_1 : decode cJ5_init_d00df 1 = .ok (.invokespecial 3, 3) := do_b7 DJ5_init_d00df_1
theorem dJ5_init_d00df_4 : decode cJ5_init_d00df 4 = .ok (.getstatic 18, 3) := do_b2 DJ5_init_d00df_4
theorem dJ5_init_d00df_7 : decode cJ5_init_d00df 7 = .ok (.ifCond .eq 18, 3) := do_99 DJ5_init_d00df_7 (by decide +kernel)
theorem dJ5_init_d00df_10 : decode cJ5_init_d00df 10 = .ok (.aload_n 0, 1) := do_2a DJ5_init_d00df_10
theorem dJ5_init_d00df_11 : decode cJ5_init_d00df 11 = .ok (.iload_n 1, 1) := do_1b DJ5_init_d00df_11
theorem dJ5_init_d00df_12 : decode cJ5_init_d00df 12 = .ok (.newarray .byte, 2) := by decide +kernel
theorem dJ5_init_d00df_14 : decode cJ5_init_d00df 14 = .ok (.putfield 15, 3) := do_b5 DJ5_init_d00df_14
theorem dJ5_init_d00df_17 : decode cJ5_init_d00df 17 = .ok (.aload_n 0, 1) := do_2a DJ5_init_d00df_17
theorem dJ5_init_d00df_18 : decode cJ5_init_d00df 18 = .ok (.iconst 0, 1) := do_03 DJ5_init_d00df_18
theorem dJ5_init_d00df_19 : decode cJ5_init_d00df 19 = .ok (.putfield 22, 3) := do_b5 DJ5_init_d00df_19
theorem dJ5_init_d00df_22 : decode cJ5_init_d00df 22 = .ok (.goto 16, 3) := do_a7 DJ5_init_d00df_22 (by decide +kernel)
theorem dJ5_init_d00df_25 : decode cJ5_init_d00df 25 = .ok (.aload_n 0, 1) := do_2a DJ5_init_d00df_25
theorem dJ5_init_d00df_26 : decode cJ5_init_d00df 26 = .ok (.iload_n 1, 1) := do_1b DJ5_init_d00df_26
theorem dJ5_init_d00df_27 : decode cJ5_init_d00df 27 = .ok (.invokestatic 26, 3) := do_b8 DJ5_init_d00df_27
theorem dJ5_init_d00df_30 : decode cJ5_init_d00df 30 = .ok (.putfield 15, 3) := do_b5 DJ5_init_d00df_30
theorem dJ5_init_d00df_33 : decode cJ5_init_d00df 33 = .ok (.aload_n 0, 1) := do_2a DJ5_init_d00df_33
theorem dJ5_init_d00df_34 : decode cJ5_init_d00df 34 = .ok (.iconst 1, 1) := do_04 DJ5_init_d00df_34
theorem dJ5_init_d00df_35 : decode cJ5_init_d00df 35 = .ok (.putfield 22, 3) := do_b5 DJ5_init_d00df_35
theorem dJ5_init_d00df_38 : decode cJ5_init_d00df 38 = .ok (.return_, 1) := do_b1 DJ5_init_d00df_38
def TJ5_length_8abf5_5 : List UInt8 := []
def TJ5_length_8abf5_4 : List UInt8 := 172 :: TJ5_length_8abf5_5
def TJ5_length_8abf5_1 : List UInt8 := 180 :: 0 :: 79 :: TJ5_length_8abf5_4
def TJ5_length_8abf5_0 : List UInt8 := 42 :: TJ5_length_8abf5_1
theorem DJ5_length_8abf5_0 : cJ5_length_8abf5.data.toList.drop 0 = TJ5_length_8abf5_0 := by decide +kernel
theorem DJ5_length_8abf5_1 : cJ5_length_8abf5.data.toList.drop 1 = TJ5_length_8abf5_1 := dr1 DJ5_length_8abf5_0
theorem DJ5_length_8abf5_4 : cJ5_length_8abf5.data.toList.drop 4 = TJ5_length_8abf5_4 := dr3 DJ5_length_8abf5_1
theorem dJ5_length_8abf5_0 : decode cJ5_length_8abf5 0 = .ok (.aload_n 0, 1) := do_2a DJ5_length_8abf5_0
theorem dJ5_length_8abf5_1 : decode cJ5_length_8abf5 1 = .ok (.getfield 79, 3) := do_b4 DJ5_length_8abf5_1
theorem dJ5_length_8abf5_4 : decode cJ5_length_8abf5 4 = .ok (.ireturn, 1) := do_ac DJ5_length_8abf5_4
def TJ5_ensureCapacityInternal_d00df_39 : List UInt8 := []
def TJ5_ensureCapacityInternal_d00df_38 : List UInt8 := 177 :: TJ5_ensureCapacityInternal_d00df_39
def TJ5_ensureCapacityInternal_d00df_35 : List UInt8 := 181 :: 0 :: 15 :: TJ5_ensureCapacityInternal_d00df_38
def TJ5_ensureCapacityInternal_d00df_32 : List UInt8 := 184 :: 0 :: 108 :: TJ5_ensureCapacityInternal_d00df_35
def TJ5_ensureCapacityInternal_d00df_31 : List UInt8 := 120 :: TJ5_ensureCapacityInternal_d00df_32
def TJ5_ensureCapacityInternal_d00df_28 : List UInt8 := 180 :: 0 :: 22 :: TJ5_ensureCapacityInternal_d00df_31
def TJ5_ensureCapacityInternal_d00df_27 : List UInt8 := 42 :: TJ5_ensureCapacityInternal_d00df_28
def TJ5_ensureCapacityInternal_d00df_24 : List UInt8 := 182 :: 0 :: 104 :: TJ5_ensureCapacityInternal_d00df_27
def TJ5_ensureCapacityInternal_d00df_23 : List UInt8 := 27 :: TJ5_ensureCapacityInternal_d00df_24
def TJ5_ensureCapacityInternal_d00df_22 : List UInt8 := 42 :: TJ5_ensureCapacityInternal_d00df_23
def TJ5_ensureCapacityInternal_d00df_19 : List UInt8 := 180 :: 0 :: 15 :: TJ5_ensureCapacityInternal_d00df_22
def TJ5_ensureCapacityInternal_d00df_18 : List UInt8 := 42 :: TJ5_ensureCapacityInternal_d00df_19
def TJ5_ensureCapacityInternal_d00df_17 : List UInt8 := 42 :: TJ5_ensureCapacityInternal_d00df_18
def TJ5_ensureCapacityInternal_d00df_14 : List UInt8 := 158 :: 0 :: 24 :: TJ5_ensureCapacityInternal_d00df_17
def TJ5_ensureCapacityInternal_d00df_13 : List UInt8 := 100 :: TJ5_ensureCapacityInternal_d00df_14
def TJ5_ensureCapacityInternal_d00df_12 : List UInt8 := 28 :: TJ5_ensureCapacityInternal_d00df_13
def TJ5_ensureCapacityInternal_d00df_11 : List UInt8 := 27 :: TJ5_ensureCapacityInternal_d00df_12
def TJ5_ensureCapacityInternal_d00df_10 : List UInt8 := 61 :: TJ5_ensureCapacityInternal_d00df_11
def TJ5_ensureCapacityInternal_d00df_9 : List UInt8 := 122 :: TJ5_ensureCapacityInternal_d00df_10
def TJ5_ensureCapacityInternal_d00df_6 : List UInt8 := 180 :: 0 :: 22 :: TJ5_ensureCapacityInternal_d00df_9
def TJ5_ensureCapacityInternal_d00df_5 : List UInt8 := 42 :: TJ5_ensureCapacityInternal_d00df_6
def TJ5_ensureCapacityInternal_d00df_4 : List UInt8 := 190 :: TJ5_ensureCapacityInternal_d00df_5
def TJ5_ensureCapacityInternal_d00df_1 : List UInt8 := 180 :: 0 :: 15 :: TJ5_ensureCapacityInternal_d00df_4
def TJ5_ensureCapacityInternal_d00df_0 : List UInt8 := 42 :: TJ5_ensureCapacityInternal_d00df_1
theorem DJ5_ensureCapacityInternal_d00df_0 : cJ5_ensureCapacityInternal_d00df.data.toList.drop 0 = TJ5_ensureCapacityInternal_d00df_0 := by decide +kernel
theorem DJ5_ensureCapacityInternal_d00df_1 : cJ5_ensureCapacityInternal_d00df.data.toList.drop 1 = TJ5_ensureCapacityInternal_d00df_1 := dr1 DJ5_ensureCapacityInternal_d00df_0
theorem DJ5_ensureCapacityInternal_d00df_4 : cJ5_ensureCapacityInternal_d00df.data.toList.drop 4 = TJ5_ensureCapacityInternal_d00df_4 := dr3 DJ5_ensureCapacityInternal_d00df_1
theorem DJ5_ensureCapacityInternal_d00df_5 : cJ5_ensureCapacityInternal_d00df.data.toList.drop 5 = TJ5_ensureCapacityInternal_d00df_5 := dr1 DJ5_ensureCapacityInternal_d00df_4
theorem DJ5_ensureCapacityInternal_d00df_6 : cJ5_ensureCapacityInternal_d00df.data.toList.drop 6 = TJ5_ensureCapacityInternal_d00df_6 := dr1 DJ5_ensureCapacityInternal_d00df_5
theorem DJ5_ensureCapacityInternal_d00df_9 : cJ5_ensureCapacityInternal_d00df.data.toList.drop 9 = TJ5_ensureCapacityInternal_d00df_9 := dr3 DJ5_ensureCapacityInternal_d00df_6
theorem DJ5_ensureCapacityInternal_d00df_10 : cJ5_ensureCapacityInternal_d00df.data.toList.drop 10 = TJ5_ensureCapacityInternal_d00df_10 := dr1 DJ5_ensureCapacityInternal_d00df_9
theorem DJ5_ensureCapacityInternal_d00df_11 : cJ5_ensureCapacityInternal_d00df.data.toList.drop 11 = TJ5_ensureCapacityInternal_d00df_11 := dr1 DJ5_ensureCapacityInternal_d00df_10
theorem DJ5_ensureCapacityInternal_d00df_12 : cJ5_ensureCapacityInternal_d00df.data.toList.drop 12 = TJ5_ensureCapacityInternal_d00df_12 := dr1 DJ5_ensureCapacityInternal_d00df_11
theorem DJ5_ensureCapacityInternal_d00df_13 : cJ5_ensureCapacityInternal_d00df.data.toList.drop 13 = TJ5_ensureCapacityInternal_d00df_13 := dr1 DJ5_ensureCapacityInternal_d00df_12
theorem DJ5_ensureCapacityInternal_d00df_14 : cJ5_ensureCapacityInternal_d00df.data.toList.drop 14 = TJ5_ensureCapacityInternal_d00df_14 := dr1 DJ5_ensureCapacityInternal_d00df_13
theorem DJ5_ensureCapacityInternal_d00df_17 : cJ5_ensureCapacityInternal_d00df.data.toList.drop 17 = TJ5_ensureCapacityInternal_d00df_17 := dr3 DJ5_ensureCapacityInternal_d00df_14
theorem DJ5_ensureCapacityInternal_d00df_18 : cJ5_ensureCapacityInternal_d00df.data.toList.drop 18 = TJ5_ensureCapacityInternal_d00df_18 := dr1 DJ5_ensureCapacityInternal_d00df_17
theorem DJ5_ensureCapacityInternal_d00df_19 : cJ5_ensureCapacityInternal_d00df.data.toList.drop 19 = TJ5_ensureCapacityInternal_d00df_19 := dr1 DJ5_ensureCapacityInternal_d00df_18
theorem DJ5_ensureCapacityInternal_d00df_22 : cJ5_ensureCapacityInternal_d00df.data.toList.drop 22 = TJ5_ensureCapacityInternal_d00df_22 := dr3 DJ5_ensureCapacityInternal_d00df_19
theorem DJ5_ensureCapacityInternal_d00df_23 : cJ5_ensureCapacityInternal_d00df.data.toList.drop 23 = TJ5_ensureCapacityInternal_d00df_23 := dr1 DJ5_ensureCapacityInternal_d00df_22
theorem DJ5_ensureCapacityInternal_d00df_24 : cJ5_ensureCapacityInternal_d00df.data.toList.drop 24 = TJ5_ensureCapacityInternal_d00df_24 := dr1 DJ5_ensureCapacityInternal_d00df_23
theorem DJ5_ensureCapacityInternal_d00df_27 : cJ5_ensureCapacityInternal_d00df.data.toList.drop 27 = TJ5_ensureCapacityInternal_d00df_27 := dr3 DJ5_ensureCapacityInternal_d00df_24
theorem DJ5_ensureCapacityInternal_d00df_28 : cJ5_ensureCapacityInternal_d00df.data.toList.drop 28 = TJ5_ensureCapacityInternal_d00df_28 := dr1 DJ5_ensureCapacityInternal_d00df_27
theorem DJ5_ensureCapacityInternal_d00df_31 : cJ5_ensureCapacityInternal_d00df.data.toList.drop 31 = TJ5_ensureCapacityInternal_d00df_31 := dr3 DJ5_ensureCapacityInternal_d00df_28
theorem DJ5_ensureCapacityInternal_d00df_32 : cJ5_ensureCapacityInternal_d00df.data.toList.drop 32 = TJ5_ensureCapacityInternal_d00df_32 := dr1 DJ5_ensureCapacityInternal_d00df_31
theorem DJ5_ensureCapacityInternal_d00df_35 : cJ5_ensureCapacityInternal_d00df.data.toList.drop 35 = TJ5_ensureCapacityInternal_d00df_35 := dr3 DJ5_ensureCapacityInternal_d00df_32
theorem DJ5_ensureCapacityInternal_d00df_38 : cJ5_ensureCapacityInternal_d00df.data.toList.drop 38 = TJ5_ensureCapacityInternal_d00df_38 := dr3 DJ5_ensureCapacityInternal_d00df_35
theorem dJ5_ensureCapacityInternal_d00df_0 : decode cJ5_ensureCapacityInternal_d00df 0 = .ok (.aload_n 0, 1) := do_2a DJ5_ensureCapacityInternal_d00df_0
theorem dJ5_ensureCapacityInternal_d00df_1 : decode cJ5_ensureCapacityInternal_d00df 1 = .ok (.getfield 15, 3) := do_b4 DJ5_ensureCapacityInternal_d00df_1
theorem dJ5_ensureCapacityInternal_d00df_4 : decode cJ5_ensureCapacityInternal_d00df 4 = .ok (.arraylength, 1) := do_be DJ5_ensureCapacityInternal_d00df_4
theorem dJ5_ensureCapacityInternal_d00df_5 : decode cJ5_ensureCapacityInternal_d00df 5 = .ok (.aload_n 0, 1) := do_2a DJ5_ensureCapacityInternal_d00df_5
theorem dJ5_ensureCapacityInternal_d00df_6 : decode cJ5_ensureCapacityInternal_d00df 6 = .ok (.getfield 22, 3) := do_b4 DJ5_ensureCapacityInternal_d00df_6
theorem dJ5_ensureCapacityInternal_d00df_9 : decode cJ5_ensureCapacityInternal_d00df 9 = .ok (.ishr, 1) := do_7a DJ5_ensureCapacityInternal_d00df_9
theorem dJ5_ensureCapacityInternal_d00df_10 : decode cJ5_ensureCapacityInternal_d00df 10 = .ok (.istore_n 2, 1) := do_3d DJ5_ensureCapacityInternal_d00df_10
theorem dJ5_ensureCapacityInternal_d00df_11 : decode cJ5_ensureCapacityInternal_d00df 11 = .ok (.iload_n 1, 1) := do_1b DJ5_ensureCapacityInternal_d00df_11
theorem dJ5_ensureCapacityInternal_d00df_12 : decode cJ5_ensureCapacityInternal_d00df 12 = .ok (.iload_n 2, 1) := do_1c DJ5_ensureCapacityInternal_d00df_12
theorem dJ5_ensureCapacityInternal_d00df_13 : decode cJ5_ensureCapacityInternal_d00df 13 = .ok (.isub, 1) := do_64 DJ5_ensureCapacityInternal_d00df_13
theorem dJ5_ensureCapacityInternal_d00df_14 : decode cJ5_ensureCapacityInternal_d00df 14 = .ok (.ifCond .le 24, 3) := do_9e DJ5_ensureCapacityInternal_d00df_14 (by decide +kernel)
theorem dJ5_ensureCapacityInternal_d00df_17 : decode cJ5_ensureCapacityInternal_d00df 17 = .ok (.aload_n 0, 1) := do_2a DJ5_ensureCapacityInternal_d00df_17
theorem dJ5_ensureCapacityInternal_d00df_18 : decode cJ5_ensureCapacityInternal_d00df 18 = .ok (.aload_n 0, 1) := do_2a DJ5_ensureCapacityInternal_d00df_18
theorem dJ5_ensureCapacityInternal_d00df_19 : decode cJ5_ensureCapacityInternal_d00df 19 = .ok (.getfield 15, 3) := do_b4 DJ5_ensureCapacityInternal_d00df_19
theorem dJ5_ensureCapacityInternal_d00df_22 : decode cJ5_ensureCapacityInternal_d00df 22 = .ok (.aload_n 0, 1) := do_2a DJ5_ensureCapacityInternal_d00df_22
theorem dJ5_ensureCapacityInternal_d00df_23 : decode cJ5_ensureCapacityInternal_d00df 23 = .ok (.iload_n 1, 1) := do_1b DJ5_ensureCapacityInternal_d00df_23
theorem dJ5_ensureCapacityInternal_d00df_24 : decode cJ5_ensureCapacityInternal_d00df 24 = .ok (.invokevirtual 104, 3) := do_b6 DJ5_ensureCapacityInternal_d00df_24
theorem dJ5_ensureCapacityInternal_d00df_27 : decode cJ5_ensureCapacityInternal_d00df 27 = .ok (.aload_n 0, 1) := do_2a DJ5_ensureCapacityInternal_d00df_27
theorem dJ5_ensureCapacityInternal_d00df_28 : decode cJ5_ensureCapacityInternal_d00df 28 = .ok (.getfield 22, 3) := do_b4 DJ5_ensureCapacityInternal_d00df_28
theorem dJ5_ensureCapacityInternal_d00df_31 : decode cJ5_ensureCapacityInternal_d00df 31 = .ok (.ishl, 1) := do_78 DJ5_ensureCapacityInternal_d00df_31
theorem dJ5_ensureCapacityInternal_d00df_32 : decode cJ5_ensureCapacityInternal_d00df 32 = .ok (.invokestatic 108, 3) := do_b8 DJ5_ensureCapacityInternal_d00df_32
theorem dJ5_ensureCapacityInternal_d00df_35 : decode cJ5_ensureCapacityInternal_d00df 35 = .ok (.putfield 15, 3) := do_b5 DJ5_ensureCapacityInternal_d00df_35
theorem dJ5_ensureCapacityInternal_d00df_38 : decode cJ5_ensureCapacityInternal_d00df 38 = .ok (.return_, 1) := do_b1 DJ5_ensureCapacityInternal_d00df_38
def TJ5_newCapacity_0f7a4_59 : List UInt8 := []
def TJ5_newCapacity_0f7a4_58 : List UInt8 := 172 :: TJ5_newCapacity_0f7a4_59
def TJ5_newCapacity_0f7a4_57 : List UInt8 := 122 :: TJ5_newCapacity_0f7a4_58
def TJ5_newCapacity_0f7a4_54 : List UInt8 := 180 :: 0 :: 22 :: TJ5_newCapacity_0f7a4_57
def TJ5_newCapacity_0f7a4_53 : List UInt8 := 42 :: TJ5_newCapacity_0f7a4_54
def TJ5_newCapacity_0f7a4_51 : List UInt8 := 21 :: 5 :: TJ5_newCapacity_0f7a4_53
def TJ5_newCapacity_0f7a4_50 : List UInt8 := 191 :: TJ5_newCapacity_0f7a4_51
def TJ5_newCapacity_0f7a4_47 : List UInt8 := 183 :: 0 :: 124 :: TJ5_newCapacity_0f7a4_50
def TJ5_newCapacity_0f7a4_45 : List UInt8 := 18 :: 122 :: TJ5_newCapacity_0f7a4_47
def TJ5_newCapacity_0f7a4_44 : List UInt8 := 89 :: TJ5_newCapacity_0f7a4_45
def TJ5_newCapacity_0f7a4_41 : List UInt8 := 187 :: 0 :: 120 :: TJ5_newCapacity_0f7a4_44
def TJ5_newCapacity_0f7a4_38 : List UInt8 := 160 :: 0 :: 13 :: TJ5_newCapacity_0f7a4_41
def TJ5_newCapacity_0f7a4_36 : List UInt8 := 18 :: 39 :: TJ5_newCapacity_0f7a4_38
def TJ5_newCapacity_0f7a4_34 : List UInt8 := 21 :: 5 :: TJ5_newCapacity_0f7a4_36
def TJ5_newCapacity_0f7a4_32 : List UInt8 := 54 :: 5 :: TJ5_newCapacity_0f7a4_34
def TJ5_newCapacity_0f7a4_29 : List UInt8 := 184 :: 0 :: 114 :: TJ5_newCapacity_0f7a4_32
def TJ5_newCapacity_0f7a4_28 : List UInt8 := 96 :: TJ5_newCapacity_0f7a4_29
def TJ5_newCapacity_0f7a4_27 : List UInt8 := 120 :: TJ5_newCapacity_0f7a4_28
def TJ5_newCapacity_0f7a4_24 : List UInt8 := 180 :: 0 :: 22 :: TJ5_newCapacity_0f7a4_27
def TJ5_newCapacity_0f7a4_23 : List UInt8 := 42 :: TJ5_newCapacity_0f7a4_24
def TJ5_newCapacity_0f7a4_22 : List UInt8 := 5 :: TJ5_newCapacity_0f7a4_23
def TJ5_newCapacity_0f7a4_21 : List UInt8 := 28 :: TJ5_newCapacity_0f7a4_22
def TJ5_newCapacity_0f7a4_19 : List UInt8 := 21 :: 4 :: TJ5_newCapacity_0f7a4_21
def TJ5_newCapacity_0f7a4_18 : List UInt8 := 28 :: TJ5_newCapacity_0f7a4_19
def TJ5_newCapacity_0f7a4_16 : List UInt8 := 54 :: 4 :: TJ5_newCapacity_0f7a4_18
def TJ5_newCapacity_0f7a4_15 : List UInt8 := 100 :: TJ5_newCapacity_0f7a4_16
def TJ5_newCapacity_0f7a4_14 : List UInt8 := 28 :: TJ5_newCapacity_0f7a4_15
def TJ5_newCapacity_0f7a4_13 : List UInt8 := 29 :: TJ5_newCapacity_0f7a4_14
def TJ5_newCapacity_0f7a4_12 : List UInt8 := 62 :: TJ5_newCapacity_0f7a4_13
def TJ5_newCapacity_0f7a4_11 : List UInt8 := 120 :: TJ5_newCapacity_0f7a4_12
def TJ5_newCapacity_0f7a4_8 : List UInt8 := 180 :: 0 :: 22 :: TJ5_newCapacity_0f7a4_11
def TJ5_newCapacity_0f7a4_7 : List UInt8 := 42 :: TJ5_newCapacity_0f7a4_8
def TJ5_newCapacity_0f7a4_6 : List UInt8 := 27 :: TJ5_newCapacity_0f7a4_7
def TJ5_newCapacity_0f7a4_5 : List UInt8 := 61 :: TJ5_newCapacity_0f7a4_6
def TJ5_newCapacity_0f7a4_4 : List UInt8 := 190 :: TJ5_newCapacity_0f7a4_5
def TJ5_newCapacity_0f7a4_1 : List UInt8 := 180 :: 0 :: 15 :: TJ5_newCapacity_0f7a4_4
def TJ5_newCapacity_0f7a4_0 : List UInt8 := 42 :: TJ5_newCapacity_0f7a4_1
theorem DJ5_newCapacity_0f7a4_0 : cJ5_newCapacity_0f7a4.data.toList.drop 0 = TJ5_newCapacity_0f7a4_0 := by decide +kernel
theorem DJ5_newCapacity_0f7a4_1 : cJ5_newCapacity_0f7a4.data.toList.drop 1 = TJ5_newCapacity_0f7a4_1 := dr1 DJ5_newCapacity_0f7a4_0
theorem DJ5_newCapacity_0f7a4_4 : cJ5_newCapacity_0f7a4.data.toList.drop 4 = TJ5_newCapacity_0f7a4_4 := dr3 DJ5_newCapacity_0f7a4_1
theorem DJ5_newCapacity_0f7a4_5 : cJ5_newCapacity_0f7a4.data.toList.drop 5 = TJ5_newCapacity_0f7a4_5 := dr1 DJ5_newCapacity_0f7a4_4
theorem DJ5_newCapacity_0f7a4_6 : cJ5_newCapacity_0f7a4.data.toList.drop 6 = TJ5_newCapacity_0f7a4_6 := dr1 DJ5_newCapacity_0f7a4_5
theorem DJ5_newCapacity_0f7a4_7 : cJ5_newCapacity_0f7a4.data.toList.drop 7 = TJ5_newCapacity_0f7a4_7 := dr1 DJ5_newCapacity_0f7a4_6
theorem DJ5_newCapacity_0f7a4_8 : cJ5_newCapacity_0f7a4.data.toList.drop 8 = TJ5_newCapacity_0f7a4_8 := dr1 DJ5_newCapacity_0f7a4_7
theorem DJ5_newCapacity_0f7a4_11 : cJ5_newCapacity_0f7a4.data.toList.drop 11 = TJ5_newCapacity_0f7a4_11 := dr3 DJ5_newCapacity_0f7a4_8
theorem DJ5_newCapacity_0f7a4_12 : cJ5_newCapacity_0f7a4.data.toList.drop 12 = TJ5_newCapacity_0f7a4_12 := dr1 DJ5_newCapacity_0f7a4_11
theorem DJ5_newCapacity_0f7a4_13 : cJ5_newCapacity_0f7a4.data.toList.drop 13 = TJ5_newCapacity_0f7a4_13 := dr1 DJ5_newCapacity_0f7a4_12
theorem DJ5_newCapacity_0f7a4_14 : cJ5_newCapacity_0f7a4.data.toList.drop 14 = TJ5_newCapacity_0f7a4_14 := dr1 DJ5_newCapacity_0f7a4_13
theorem DJ5_newCapacity_0f7a4_15 : cJ5_newCapacity_0f7a4.data.toList.drop 15 = TJ5_newCapacity_0f7a4_15 := dr1 DJ5_newCapacity_0f7a4_14
theorem DJ5_newCapacity_0f7a4_16 : cJ5_newCapacity_0f7a4.data.toList.drop 16 = TJ5_newCapacity_0f7a4_16 := dr1 DJ5_newCapacity_0f7a4_15
theorem DJ5_newCapacity_0f7a4_18 : cJ5_newCapacity_0f7a4.data.toList.drop 18 = TJ5_newCapacity_0f7a4_18 := dr2 DJ5_newCapacity_0f7a4_16
theorem DJ5_newCapacity_0f7a4_19 : cJ5_newCapacity_0f7a4.data.toList.drop 19 = TJ5_newCapacity_0f7a4_19 := dr1 DJ5_newCapacity_0f7a4_18
theorem DJ5_newCapacity_0f7a4_21 : cJ5_newCapacity_0f7a4.data.toList.drop 21 = TJ5_newCapacity_0f7a4_21 := dr2 DJ5_newCapacity_0f7a4_19
theorem DJ5_newCapacity_0f7a4_22 : cJ5_newCapacity_0f7a4.data.toList.drop 22 = TJ5_newCapacity_0f7a4_22 := dr1 DJ5_newCapacity_0f7a4_21
theorem DJ5_newCapacity_0f7a4_23 : cJ5_newCapacity_0f7a4.data.toList.drop 23 = TJ5_newCapacity_0f7a4_23 := dr1 DJ5_newCapacity_0f7a4_22
theorem DJ5_newCapacity_0f7a4_24 : cJ5_newCapacity_0f7a4.data.toList.drop 24 = TJ5_newCapacity_0f7a4_24 := dr1 DJ5_newCapacity_0f7a4_23
theorem DJ5_newCapacity_0f7a4_27 : cJ5_newCapacity_0f7a4.data.toList.drop 27 = TJ5_newCapacity_0f7a4_27 := dr3 DJ5_newCapacity_0f7a4_24
theorem DJ5_newCapacity_0f7a4_28 : cJ5_newCapacity_0f7a4.data.toList.drop 28 = TJ5_newCapacity_0f7a4_28 := dr1 DJ5_newCapacity_0f7a4_27
theorem DJ5_newCapacity_0f7a4_29 : cJ5_newCapacity_0f7a4.data.toList.drop 29 = TJ5_newCapacity_0f7a4_29 := dr1 DJ5_newCapacity_0f7a4_28
theorem DJ5_newCapacity_0f7a4_32 : cJ5_newCapacity_0f7a4.data.toList.drop 32 = TJ5_newCapacity_0f7a4_32 := dr3 DJ5_newCapacity_0f7a4_29
theorem DJ5_newCapacity_0f7a4_34 : cJ5_newCapacity_0f7a4.data.toList.drop 34 = TJ5_newCapacity_0f7a4_34 := dr2 DJ5_newCapacity_0f7a4_32
theorem DJ5_newCapacity_0f7a4_36 : cJ5_newCapacity_0f7a4.data.toList.drop 36 = TJ5_newCapacity_0f7a4_36 := dr2 DJ5_newCapacity_0f7a4_34
theorem DJ5_newCapacity_0f7a4_38 : cJ5_newCapacity_0f7a4.data.toList.drop 38 = TJ5_newCapacity_0f7a4_38 := dr2 DJ5_newCapacity_0f7a4_36
theorem DJ5_newCapacity_0f7a4_41 : cJ5_newCapacity_0f7a4.data.toList.drop 41 = TJ5_newCapacity_0f7a4_41 := dr3 DJ5_newCapacity_0f7a4_38
theorem DJ5_newCapacity_0f7a4_44 : cJ5_newCapacity_0f7a4.data.toList.drop 44 = TJ5_newCapacity_0f7a4_44 := dr3 DJ5_newCapacity_0f7a4_41
theorem DJ5_newCapacity_0f7a4_45 : cJ5_newCapacity_0f7a4.data.toList.drop 45 = TJ5_newCapacity_0f7a4_45 := dr1 DJ5_newCapacity_0f7a4_44
theorem DJ5_newCapacity_0f7a4_47 : cJ5_newCapacity_0f7a4.data.toList.drop 47 = TJ5_newCapacity_0f7a4_47 := dr2 DJ5_newCapacity_0f7a4_45
theorem DJ5_newCapacity_0f7a4_50 : cJ5_newCapacity_0f7a4.data.toList.drop 50 = TJ5_newCapacity_0f7a4_50 := dr3 DJ5_newCapacity_0f7a4_47
theorem DJ5_newCapacity_0f7a4_51 : cJ5_newCapacity_0f7a4.data.toList.drop 51 = TJ5_newCapacity_0f7a4_51 := dr1 DJ5_newCapacity_0f7a4_50
theorem DJ5_newCapacity_0f7a4_53 : cJ5_newCapacity_0f7a4.data.toList.drop 53 = TJ5_newCapacity_0f7a4_53 := dr2 DJ5_newCapacity_0f7a4_51
theorem DJ5_newCapacity_0f7a4_54 : cJ5_newCapacity_0f7a4.data.toList.drop 54 = TJ5_newCapacity_0f7a4_54 := dr1 DJ5_newCapacity_0f7a4_53
theorem DJ5_newCapacity_0f7a4_57 : cJ5_newCapacity_0f7a4.data.toList.drop 57 = TJ5_newCapacity_0f7a4_57 := dr3 DJ5_newCapacity_0f7a4_54
theorem DJ5_newCapacity_0f7a4_58 : cJ5_newCapacity_0f7a4.data.toList.drop 58 = TJ5_newCapacity_0f7a4_58 := dr1 DJ5_newCapacity_0f7a4_57
theorem dJ5_newCapacity_0f7a4_0 : decode cJ5_newCapacity_0f7a4 0 = .ok (.aload_n 0, 1) := do_2a DJ5_newCapacity_0f7a4_0
theorem dJ5_newCapacity_0f7a4_1 : decode cJ5_newCapacity_0f7a4 1 = .ok (.getfield 15, 3) := do_b4 DJ5_newCapacity_0f7a4_1
theorem dJ5_newCapacity_0f7a4_4 : decode cJ5_newCapacity_0f7a4 4 = .ok (.arraylength, 1) := do_be DJ5_newCapacity_0f7a4_4
theorem dJ5_newCapacity_0f7a4_5 : decode cJ5_newCapacity_0f7a4 5 = .ok (.istore_n 2, 1) := do_3d DJ5_newCapacity_0f7a4_5
theorem dJ5_newCapacity_0f7a4_6 : decode cJ5_newCapacity_0f7a4 6 = .ok (.iload_n 1, 1) := do_1b DJ5_newCapacity_0f7a4_6
theorem dJ5_newCapacity_0f7a4_7 : decode cJ5_newCapacity_0f7a4 7 = .ok (.aload_n 0, 1) := do_2a DJ5_newCapacity_0f7a4_7
theorem dJ5_newCapacity_0f7a4_8 : decode cJ5_newCapacity_0f7a4 8 = .ok (.getfield 22, 3) := do_b4 DJ5_newCapacity_0f7a4_8
theorem dJ5_newCapacity_0f7a4_11 : decode cJ5_newCapacity_0f7a4 11 = .ok (.ishl, 1) := do_78 DJ5_newCapacity_0f7a4_11
theorem dJ5_newCapacity_0f7a4_12 : decode cJ5_newCapacity_0f7a4 12 = .ok (.istore_n 3, 1) := do_3e DJ5_newCapacity_0f7a4_12
theorem dJ5_newCapacity_0f7a4_13 : decode cJ5_newCapacity_0f7a4 13 = .ok (.iload_n 3, 1) := do_1d DJ5_newCapacity_0f7a4_13
theorem dJ5_newCapacity_0f7a4_14 : decode cJ5_newCapacity_0f7a4 14 = .ok (.iload_n 2, 1) := do_1c DJ5_newCapacity_0f7a4_14
theorem dJ5_newCapacity_0f7a4_15 : decode cJ5_newCapacity_0f7a4 15 = .ok (.isub, 1) := do_64 DJ5_newCapacity_0f7a4_15
theorem dJ5_newCapacity_0f7a4_16 : decode cJ5_newCapacity_0f7a4 16 = .ok (.istore 4, 2) := do_36 DJ5_newCapacity_0f7a4_16
theorem dJ5_newCapacity_0f7a4_18 : decode cJ5_newCapacity_0f7a4 18 = .ok (.iload_n 2, 1) := do_1c DJ5_newCapacity_0f7a4_18
theorem dJ5_newCapacity_0f7a4_19 : decode cJ5_newCapacity_0f7a4 19 = .ok (.iload 4, 2) := do_15 DJ5_newCapacity_0f7a4_19
theorem dJ5_newCapacity_0f7a4_21 : decode cJ5_newCapacity_0f7a4 21 = .ok (.iload_n 2, 1) := do_1c DJ5_newCapacity_0f7a4_21
theorem dJ5_newCapacity_0f7a4_22 : decode cJ5_newCapacity_0f7a4 22 = .ok (.iconst 2, 1) := do_05 DJ5_newCapacity_0f7a4_22
theorem dJ5_newCapacity_0f7a4_23 : decode cJ5_newCapacity_0f7a4 23 = .ok (.aload_n 0, 1) := do_2a DJ5_newCapacity_0f7a4_23
theorem dJ5_newCapacity_0f7a4_24 : decode cJ5_newCapacity_0f7a4 24 = .ok (.getfield 22, 3) := do_b4 DJ5_newCapacity_0f7a4_24
theorem dJ5_newCapacity_0f7a4_27 : decode cJ5_newCapacity_0f7a4 27 = .ok (.ishl, 1) := do_78 DJ5_newCapacity_0f7a4_27
theorem dJ5_newCapacity_0f7a4_28 : decode cJ5_newCapacity_0f7a4 28 = .ok (.iadd, 1) := do_60 DJ5_newCapacity_0f7a4_28
theorem dJ5_newCapacity_0f7a4_29 : decode cJ5_newCapacity_0f7a4 29 = .ok (.invokestatic 114, 3) := do_b8 DJ5_newCapacity_0f7a4_29
theorem dJ5_newCapacity_0f7a4_32 : decode cJ5_newCapacity_0f7a4 32 = .ok (.istore 5, 2) := do_36 DJ5_newCapacity_0f7a4_32
theorem dJ5_newCapacity_0f7a4_34 : decode cJ5_newCapacity_0f7a4 34 = .ok (.iload 5, 2) := do_15 DJ5_newCapacity_0f7a4_34
theorem dJ5_newCapacity_0f7a4_36 : decode cJ5_newCapacity_0f7a4 36 = .ok (.ldc 39, 2) := by decide +kernel
theorem dJ5_newCapacity_0f7a4_38 : decode cJ5_newCapacity_0f7a4 38 = .ok (.if_icmp .ne 13, 3) := do_a0 DJ5_newCapacity_0f7a4_38 (by decide +kernel)
theorem dJ5_newCapacity_0f7a4_41 : decode cJ5_newCapacity_0f7a4 41 = .ok (.new 120, 3) := do_bb DJ5_newCapacity_0f7a4_41
theorem dJ5_newCapacity_0f7a4_44 : decode cJ5_newCapacity_0f7a4 44 = .ok (.dup, 1) := do_59 DJ5_newCapacity_0f7a4_44
theorem dJ5_newCapacity_0f7a4_45 : decode cJ5_newCapacity_0f7a4 45 = .ok (.ldc 122, 2) := by decide +kernel
theorem dJ5_newCapacity_0f7a4_47 : decode cJ5_newCapacity_0f7a4 47 = .ok (.invokespecial 124, 3) := do_b7 DJ5_newCapacity_0f7a4_47
theorem dJ5_newCapacity_0f7a4_50 : decode cJ5_newCapacity_0f7a4 50 = .ok (.athrow, 1) := do_bf DJ5_newCapacity_0f7a4_50
theorem dJ5_newCapacity_0f7a4_51 : decode cJ5_newCapacity_0f7a4 51 = .ok (.iload 5, 2) := do_15 DJ5_newCapacity_0f7a4_51
theorem dJ5_newCapacity_0f7a4_53 : decode cJ5_newCapacity_0f7a4 53 = .ok (.aload_n 0, 1) := do_2a DJ5_newCapacity_0f7a4_53
theorem dJ5_newCapacity_0f7a4_54 : decode cJ5_newCapacity_0f7a4 54 = .ok (.getfield 22, 3) := do_b4 DJ5_newCapacity_0f7a4_54
theorem dJ5_newCapacity_0f7a4_57 : decode cJ5_newCapacity_0f7a4 57 = .ok (.ishr, 1) := do_7a DJ5_newCapacity_0f7a4_57
theorem dJ5_newCapacity_0f7a4_58 : decode cJ5_newCapacity_0f7a4 58 = .ok (.ireturn, 1) := do_ac DJ5_newCapacity_0f7a4_58
def TJ5_inflate_da8c8_42 : List UInt8 := []
def TJ5_inflate_da8c8_41 : List UInt8 := 177 :: TJ5_inflate_da8c8_42
def TJ5_inflate_da8c8_38 : List UInt8 := 181 :: 0 :: 22 :: TJ5_inflate_da8c8_41
def TJ5_inflate_da8c8_37 : List UInt8 := 4 :: TJ5_inflate_da8c8_38
def TJ5_inflate_da8c8_36 : List UInt8 := 42 :: TJ5_inflate_da8c8_37
def TJ5_inflate_da8c8_33 : List UInt8 := 181 :: 0 :: 15 :: TJ5_inflate_da8c8_36
def TJ5_inflate_da8c8_32 : List UInt8 := 43 :: TJ5_inflate_da8c8_33
def TJ5_inflate_da8c8_31 : List UInt8 := 42 :: TJ5_inflate_da8c8_32
def TJ5_inflate_da8c8_28 : List UInt8 := 184 :: 0 :: 125 :: TJ5_inflate_da8c8_31
def TJ5_inflate_da8c8_25 : List UInt8 := 180 :: 0 :: 79 :: TJ5_inflate_da8c8_28
def TJ5_inflate_da8c8_24 : List UInt8 := 42 :: TJ5_inflate_da8c8_25
def TJ5_inflate_da8c8_23 : List UInt8 := 3 :: TJ5_inflate_da8c8_24
def TJ5_inflate_da8c8_22 : List UInt8 := 43 :: TJ5_inflate_da8c8_23
def TJ5_inflate_da8c8_21 : List UInt8 := 3 :: TJ5_inflate_da8c8_22
def TJ5_inflate_da8c8_18 : List UInt8 := 180 :: 0 :: 15 :: TJ5_inflate_da8c8_21
def TJ5_inflate_da8c8_17 : List UInt8 := 42 :: TJ5_inflate_da8c8_18
def TJ5_inflate_da8c8_16 : List UInt8 := 76 :: TJ5_inflate_da8c8_17
def TJ5_inflate_da8c8_13 : List UInt8 := 184 :: 0 :: 26 :: TJ5_inflate_da8c8_16
def TJ5_inflate_da8c8_12 : List UInt8 := 190 :: TJ5_inflate_da8c8_13
def TJ5_inflate_da8c8_9 : List UInt8 := 180 :: 0 :: 15 :: TJ5_inflate_da8c8_12
def TJ5_inflate_da8c8_8 : List UInt8 := 42 :: TJ5_inflate_da8c8_9
def TJ5_inflate_da8c8_7 : List UInt8 := 177 :: TJ5_inflate_da8c8_8
def TJ5_inflate_da8c8_4 : List UInt8 := 154 :: 0 :: 4 :: TJ5_inflate_da8c8_7
def TJ5_inflate_da8c8_1 : List UInt8 := 182 :: 0 :: 83 :: TJ5_inflate_da8c8_4
def TJ5_inflate_da8c8_0 : List UInt8 := 42 :: TJ5_inflate_da8c8_1
theorem DJ5_inflate_da8c8_0 : cJ5_inflate_da8c8.data.toList.drop 0 = TJ5_inflate_da8c8_0 := by decide +kernel
theorem DJ5_inflate_da8c8_1 : cJ5_inflate_da8c8.data.toList.drop 1 = TJ5_inflate_da8c8_1 := dr1 DJ5_inflate_da8c8_0
theorem DJ5_inflate_da8c8_4 : cJ5_inflate_da8c8.data.toList.drop 4 = TJ5_inflate_da8c8_4 := dr3 DJ5_inflate_da8c8_1
theorem DJ5_inflate_da8c8_7 : cJ5_inflate_da8c8.data.toList.drop 7 = TJ5_inflate_da8c8_7 := dr3 DJ5_inflate_da8c8_4
theorem DJ5_inflate_da8c8_8 : cJ5_inflate_da8c8.data.toList.drop 8 = TJ5_inflate_da8c8_8 := dr1 DJ5_inflate_da8c8_7
theorem DJ5_inflate_da8c8_9 : cJ5_inflate_da8c8.data.toList.drop 9 = TJ5_inflate_da8c8_9 := dr1 DJ5_inflate_da8c8_8
theorem DJ5_inflate_da8c8_12 : cJ5_inflate_da8c8.data.toList.drop 12 = TJ5_inflate_da8c8_12 := dr3 DJ5_inflate_da8c8_9
theorem DJ5_inflate_da8c8_13 : cJ5_inflate_da8c8.data.toList.drop 13 = TJ5_inflate_da8c8_13 := dr1 DJ5_inflate_da8c8_12
theorem DJ5_inflate_da8c8_16 : cJ5_inflate_da8c8.data.toList.drop 16 = TJ5_inflate_da8c8_16 := dr3 DJ5_inflate_da8c8_13
theorem DJ5_inflate_da8c8_17 : cJ5_inflate_da8c8.data.toList.drop 17 = TJ5_inflate_da8c8_17 := dr1 DJ5_inflate_da8c8_16
theorem DJ5_inflate_da8c8_18 : cJ5_inflate_da8c8.data.toList.drop 18 = TJ5_inflate_da8c8_18 := dr1 DJ5_inflate_da8c8_17
theorem DJ5_inflate_da8c8_21 : cJ5_inflate_da8c8.data.toList.drop 21 = TJ5_inflate_da8c8_21 := dr3 DJ5_inflate_da8c8_18
theorem DJ5_inflate_da8c8_22 : cJ5_inflate_da8c8.data.toList.drop 22 = TJ5_inflate_da8c8_22 := dr1 DJ5_inflate_da8c8_21
theorem DJ5_inflate_da8c8_23 : cJ5_inflate_da8c8.data.toList.drop 23 = TJ5_inflate_da8c8_23 := dr1 DJ5_inflate_da8c8_22
theorem DJ5_inflate_da8c8_24 : cJ5_inflate_da8c8.data.toList.drop 24 = TJ5_inflate_da8c8_24 := dr1 DJ5_inflate_da8c8_23
theorem DJ5_inflate_da8c8_25 : cJ5_inflate_da8c8.data.toList.drop 25 = TJ5_inflate_da8c8_25 := dr1 DJ5_inflate_da8c8_24
theorem DJ5_inflate_da8c8_28 : cJ5_inflate_da8c8.data.toList.drop 28 = TJ5_inflate_da8c8_28 := dr3 DJ5_inflate_da8c8_25
theorem DJ5_inflate_da8c8_31 : cJ5_inflate_da8c8.data.toList.drop 31 = TJ5_inflate_da8c8_31 := dr3 DJ5_inflate_da8c8_28
theorem DJ5_inflate_da8c8_32 : cJ5_inflate_da8c8.data.toList.drop 32 = TJ5_inflate_da8c8_32 := dr1 DJ5_inflate_da8c8_31
theorem DJ5_inflate_da8c8_33 : cJ5_inflate_da8c8.data.toList.drop 33 = TJ5_inflate_da8c8_33 := dr1 DJ5_inflate_da8c8_32
theorem DJ5_inflate_da8c8_36 : cJ5_inflate_da8c8.data.toList.drop 36 = TJ5_inflate_da8c8_36 := dr3 DJ5_inflate_da8c8_33
theorem DJ5_inflate_da8c8_37 : cJ5_inflate_da8c8.data.toList.drop 37 = TJ5_inflate_da8c8_37 := dr1 DJ5_inflate_da8c8_36
theorem DJ5_inflate_da8c8_38 : cJ5_inflate_da8c8.data.toList.drop 38 = TJ5_inflate_da8c8_38 := dr1 DJ5_inflate_da8c8_37
theorem DJ5_inflate_da8c8_41 : cJ5_inflate_da8c8.data.toList.drop 41 = TJ5_inflate_da8c8_41 := dr3 DJ5_inflate_da8c8_38
theorem dJ5_inflate_da8c8_0 : decode cJ5_inflate_da8c8 0 = .ok (.aload_n 0, 1) := do_2a DJ5_inflate_da8c8_0
theorem dJ5_inflate_da8c8_1 : decode cJ5_inflate_da8c8 1 = .ok (.invokevirtual 83, 3) := do_b6 DJ5_inflate_da8c8_1
theorem dJ5_inflate_da8c8_4 : decode cJ5_inflate_da8c8 4 = .ok (.ifCond .ne 4, 3) := do_9a DJ5_inflate_da8c8_4 (by decide +kernel)
theorem dJ5_inflate_da8c8_7 : decode cJ5_inflate_da8c8 7 = .ok (.return_, 1) := do_b1 DJ5_inflate_da8c8_7
theorem dJ5_inflate_da8c8_8 : decode cJ5_inflate_da8c8 8 = .ok (.aload_n 0, 1) := do_2a DJ5_inflate_da8c8_8
theorem dJ5_inflate_da8c8_9 : decode cJ5_inflate_da8c8 9 = .ok (.getfield 15, 3) := do_b4 DJ5_inflate_da8c8_9
theorem dJ5_inflate_da8c8_12 : decode cJ5_inflate_da8c8 12 = .ok (.arraylength, 1) := do_be DJ5_inflate_da8c8_12
theorem dJ5_inflate_da8c8_13 : decode cJ5_inflate_da8c8 13 = .ok (.invokestatic 26, 3) := do_b8 DJ5_inflate_da8c8_13
theorem dJ5_inflate_da8c8_16 : decode cJ5_inflate_da8c8 16 = .ok (.astore_n 1, 1) := do_4c DJ5_inflate_da8c8_16
theorem dJ5_inflate_da8c8_17 : decode cJ5_inflate_da8c8 17 = .ok (.aload_n 0, 1) := do_2a DJ5_inflate_da8c8_17
theorem dJ5_inflate_da8c8_18 : decode cJ5_inflate_da8c8 18 = .ok (.getfield 15, 3) := do_b4 DJ5_inflate_da8c8_18
theorem dJ5_inflate_da8c8_21 : decode cJ5_inflate_da8c8 21 = .ok (.iconst 0, 1) := do_03 DJ5_inflate_da8c8_21
theorem dJ5_inflate_da8c8_22 : decode cJ5_inflate_da8c8 22 = .ok (.aload_n 1, 1) := do_2b DJ5_inflate_da8c8_22
theorem dJ5_inflate_da8c8_23 : decode cJ5_inflate_da8c8 23 = .ok (.iconst 0, 1) := do_03 DJ5_inflate_da8c8_23
theorem dJ5_inflate_da8c8_24 : decode cJ5_inflate_da8c8 24 = .ok (.aload_n 0, 1) := do_2a DJ5_inflate_da8c8_24
theorem dJ5_inflate_da8c8_25 : decode cJ5_inflate_da8c8 25 = .ok (.getfield 79, 3) := do_b4 DJ5_inflate_da8c8_25
theorem dJ5_inflate_da8c8_28 : decode cJ5_inflate_da8c8 28 = .ok (.invokestatic 125, 3) := do_b8 DJ5_inflate_da8c8_28
theorem dJ5_inflate_da8c8_31 : decode cJ5_inflate_da8c8 31 = .ok (.aload_n 0, 1) := do_2a DJ5_inflate_da8c8_31
theorem dJ5_inflate_da8c8_32 : decode cJ5_inflate_da8c8 32 = .ok (.aload_n 1, 1) := do_2b DJ5_inflate_da8c8_32
theorem dJ5_inflate_da8c8_33 : decode cJ5_inflate_da8c8 33 = .ok (.putfield 15, 3) := do_b5 DJ5_inflate_da8c8_33
theorem dJ5_inflate_da8c8_36 : decode cJ5_inflate_da8c8 36 = .ok (.aload_n 0, 1) := do_2a DJ5_inflate_da8c8_36
theorem dJ5_inflate_da8c8_37 : decode cJ5_inflate_da8c8 37 = .ok (.iconst 1, 1) := do_04 DJ5_inflate_da8c8_37
theorem dJ5_inflate_da8c8_38 : decode cJ5_inflate_da8c8 38 = .ok (.putfield 22, 3) := do_b5 DJ5_inflate_da8c8_38
theorem dJ5_inflate_da8c8_41 : decode cJ5_inflate_da8c8 41 = .ok (.return_, 1) := do_b1 DJ5_inflate_da8c8_41
def TJ5_setLength_d00df_82 : List UInt8 := []
def TJ5_setLength_d00df_81 : List UInt8 := 177 :: TJ5_setLength_d00df_82
def TJ5_setLength_d00df_78 : List UInt8 := 181 :: 0 :: 79 :: TJ5_setLength_d00df_81
def TJ5_setLength_d00df_77 : List UInt8 := 27 :: TJ5_setLength_d00df_78
def TJ5_setLength_d00df_76 : List UInt8 := 42 :: TJ5_setLength_d00df_77
def TJ5_setLength_d00df_73 : List UInt8 := 181 :: 0 :: 73 :: TJ5_setLength_d00df_76
def TJ5_setLength_d00df_72 : List UInt8 := 4 :: TJ5_setLength_d00df_73
def TJ5_setLength_d00df_71 : List UInt8 := 42 :: TJ5_setLength_d00df_72
def TJ5_setLength_d00df_68 : List UInt8 := 164 :: 0 :: 8 :: TJ5_setLength_d00df_71
def TJ5_setLength_d00df_67 : List UInt8 := 27 :: TJ5_setLength_d00df_68
def TJ5_setLength_d00df_64 : List UInt8 := 180 :: 0 :: 79 :: TJ5_setLength_d00df_67
def TJ5_setLength_d00df_63 : List UInt8 := 42 :: TJ5_setLength_d00df_64
def TJ5_setLength_d00df_60 : List UInt8 := 167 :: 0 :: 16 :: TJ5_setLength_d00df_63
def TJ5_setLength_d00df_57 : List UInt8 := 184 :: 0 :: 137 :: TJ5_setLength_d00df_60
def TJ5_setLength_d00df_56 : List UInt8 := 27 :: TJ5_setLength_d00df_57
def TJ5_setLength_d00df_53 : List UInt8 := 180 :: 0 :: 79 :: TJ5_setLength_d00df_56
def TJ5_setLength_d00df_52 : List UInt8 := 42 :: TJ5_setLength_d00df_53
def TJ5_setLength_d00df_49 : List UInt8 := 180 :: 0 :: 15 :: TJ5_setLength_d00df_52
def TJ5_setLength_d00df_48 : List UInt8 := 42 :: TJ5_setLength_d00df_49
def TJ5_setLength_d00df_45 : List UInt8 := 167 :: 0 :: 31 :: TJ5_setLength_d00df_48
def TJ5_setLength_d00df_42 : List UInt8 := 184 :: 0 :: 133 :: TJ5_setLength_d00df_45
def TJ5_setLength_d00df_41 : List UInt8 := 27 :: TJ5_setLength_d00df_42
def TJ5_setLength_d00df_38 : List UInt8 := 180 :: 0 :: 79 :: TJ5_setLength_d00df_41
def TJ5_setLength_d00df_37 : List UInt8 := 42 :: TJ5_setLength_d00df_38
def TJ5_setLength_d00df_34 : List UInt8 := 180 :: 0 :: 15 :: TJ5_setLength_d00df_37
def TJ5_setLength_d00df_33 : List UInt8 := 42 :: TJ5_setLength_d00df_34
def TJ5_setLength_d00df_30 : List UInt8 := 153 :: 0 :: 18 :: TJ5_setLength_d00df_33
def TJ5_setLength_d00df_27 : List UInt8 := 182 :: 0 :: 83 :: TJ5_setLength_d00df_30
def TJ5_setLength_d00df_26 : List UInt8 := 42 :: TJ5_setLength_d00df_27
def TJ5_setLength_d00df_23 : List UInt8 := 162 :: 0 :: 40 :: TJ5_setLength_d00df_26
def TJ5_setLength_d00df_22 : List UInt8 := 27 :: TJ5_setLength_d00df_23
def TJ5_setLength_d00df_19 : List UInt8 := 180 :: 0 :: 79 :: TJ5_setLength_d00df_22
def TJ5_setLength_d00df_18 : List UInt8 := 42 :: TJ5_setLength_d00df_19
def TJ5_setLength_d00df_15 : List UInt8 := 182 :: 0 :: 100 :: TJ5_setLength_d00df_18
def TJ5_setLength_d00df_14 : List UInt8 := 27 :: TJ5_setLength_d00df_15
def TJ5_setLength_d00df_13 : List UInt8 := 42 :: TJ5_setLength_d00df_14
def TJ5_setLength_d00df_12 : List UInt8 := 191 :: TJ5_setLength_d00df_13
def TJ5_setLength_d00df_9 : List UInt8 := 183 :: 0 :: 131 :: TJ5_setLength_d00df_12
def TJ5_setLength_d00df_8 : List UInt8 := 27 :: TJ5_setLength_d00df_9
def TJ5_setLength_d00df_7 : List UInt8 := 89 :: TJ5_setLength_d00df_8
def TJ5_setLength_d00df_4 : List UInt8 := 187 :: 0 :: 129 :: TJ5_setLength_d00df_7
def TJ5_setLength_d00df_1 : List UInt8 := 156 :: 0 :: 12 :: TJ5_setLength_d00df_4
def TJ5_setLength_d00df_0 : List UInt8 := 27 :: TJ5_setLength_d00df_1
theorem DJ5_setLength_d00df_0 : cJ5_setLength_d00df.data.toList.drop 0 = TJ5_setLength_d00df_0 := by decide +kernel
theorem DJ5_setLength_d00df_1 : cJ5_setLength_d00df.data.toList.drop 1 = TJ5_setLength_d00df_1 := dr1 DJ5_setLength_d00df_0
theorem DJ5_setLength_d00df_4 : cJ5_setLength_d00df.data.toList.drop 4 = TJ5_setLength_d00df_4 := dr3 DJ5_setLength_d00df_1
theorem DJ5_setLength_d00df_7 : cJ5_setLength_d00df.data.toList.drop 7 = TJ5_setLength_d00df_7 := dr3 DJ5_setLength_d00df_4
theorem DJ5_setLength_d00df_8 : cJ5_setLength_d00df.data.toList.drop 8 = TJ5_setLength_d00df_8 := dr1 DJ5_setLength_d00df_7
theorem DJ5_setLength_d00df_9 : cJ5_setLength_d00df.data.toList.drop 9 = TJ5_setLength_d00df_9 := dr1 DJ5_setLength_d00df_8
theorem DJ5_setLength_d00df_12 : cJ5_setLength_d00df.data.toList.drop 12 = TJ5_setLength_d00df_12 := dr3 DJ5_setLength_d00df_9
theorem DJ5_setLength_d00df_13 : cJ5_setLength_d00df.data.toList.drop 13 = TJ5_setLength_d00df_13 := dr1 DJ5_setLength_d00df_12
theorem DJ5_setLength_d00df_14 : cJ5_setLength_d00df.data.toList.drop 14 = TJ5_setLength_d00df_14 := dr1 DJ5_setLength_d00df_13
theorem DJ5_setLength_d00df_15 : cJ5_setLength_d00df.data.toList.drop 15 = TJ5_setLength_d00df_15 := dr1 DJ5_setLength_d00df_14
theorem DJ5_setLength_d00df_18 : cJ5_setLength_d00df.data.toList.drop 18 = TJ5_setLength_d00df_18 := dr3 DJ5_setLength_d00df_15
theorem DJ5_setLength_d00df_19 : cJ5_setLength_d00df.data.toList.drop 19 = TJ5_setLength_d00df_19 := dr1 DJ5_setLength_d00df_18
theorem DJ5_setLength_d00df_22 : cJ5_setLength_d00df.data.toList.drop 22 = TJ5_setLength_d00df_22 := dr3 DJ5_setLength_d00df_19
theorem DJ5_setLength_d00df_23 : cJ5_setLength_d00df.data.toList.drop 23 = TJ5_setLength_d00df_23 := dr1 DJ5_setLength_d00df_22
theorem DJ5_setLength_d00df_26 : cJ5_setLength_d00df.data.toList.drop 26 = TJ5_setLength_d00df_26 := dr3 DJ5_setLength_d00df_23
theorem DJ5_setLength_d00df_27 : cJ5_setLength_d00df.data.toList.drop 27 = TJ5_setLength_d00df_27 := dr1 DJ5_setLength_d00df_26
theorem DJ5_setLength_d00df_30 : cJ5_setLength_d00df.data.toList.drop 30 = TJ5_setLength_d00df_30 := dr3 DJ5_setLength_d00df_27
theorem DJ5_setLength_d00df_33 : cJ5_setLength_d00df.data.toList.drop 33 = TJ5_setLength_d00df_33 := dr3 DJ5_setLength_d00df_30
theorem DJ5_setLength_d00df_34 : cJ5_setLength_d00df.data.toList.drop 34 = TJ5_setLength_d00df_34 := dr1 DJ5_setLength_d00df_33
theorem DJ5_setLength_d00df_37 : cJ5_setLength_d00df.data.toList.drop 37 = TJ5_setLength_d00df_37 := dr3 DJ5_setLength_d00df_34
theorem DJ5_setLength_d00df_38 : cJ5_setLength_d00df.data.toList.drop 38 = TJ5_setLength_d00df_38 := dr1 DJ5_setLength_d00df_37
theorem DJ5_setLength_d00df_41 : cJ5_setLength_d00df.data.toList.drop 41 = TJ5_setLength_d00df_41 := dr3 DJ5_setLength_d00df_38
theorem DJ5_setLength_d00df_42 : cJ5_setLength_d00df.data.toList.drop 42 = TJ5_setLength_d00df_42 := dr1 DJ5_setLength_d00df_41
theorem DJ5_setLength_d00df_45 : cJ5_setLength_d00df.data.toList.drop 45 = TJ5_setLength_d00df_45 := dr3 DJ5_setLength_d00df_42
theorem DJ5_setLength_d00df_48 : cJ5_setLength_d00df.data.toList.drop 48 = TJ5_setLength_d00df_48 := dr3 DJ5_setLength_d00df_45
theorem DJ5_setLength_d00df_49 : cJ5_setLength_d00df.data.toList.drop 49 = TJ5_setLength_d00df_49 := dr1 DJ5_setLength_d00df_48
theorem DJ5_setLength_d00df_52 : cJ5_setLength_d00df.data.toList.drop 52 = TJ5_setLength_d00df_52 := dr3 DJ5_setLength_d00df_49
theorem DJ5_setLength_d00df_53 : cJ5_setLength_d00df.data.toList.drop 53 = TJ5_setLength_d00df_53 := dr1 DJ5_setLength_d00df_52
theorem DJ5_setLength_d00df_56 : cJ5_setLength_d00df.data.toList.drop 56 = TJ5_setLength_d00df_56 := dr3 DJ5_setLength_d00df_53
theorem DJ5_setLength_d00df_57 : cJ5_setLength_d00df.data.toList.drop 57 = TJ5_setLength_d00df_57 := dr1 DJ5_setLength_d00df_56
theorem DJ5_setLength_d00df_60 : cJ5_setLength_d00df.data.toList.drop 60 = TJ5_setLength_d00df_60 := dr3 DJ5_setLength_d00df_57
theorem DJ5_setLength_d00df_63 : cJ5_setLength_d00df.data.toList.drop 63 = TJ5_setLength_d00df_63 := dr3 DJ5_setLength_d00df_60
theorem DJ5_setLength_d00df_64 : cJ5_setLength_d00df.data.toList.drop 64 = TJ5_setLength_d00df_64 := dr1 DJ5_setLength_d00df_63
theorem DJ5_setLength_d00df_67 : cJ5_setLength_d00df.data.toList.drop 67 = TJ5_setLength_d00df_67 := dr3 DJ5_setLength_d00df_64
theorem DJ5_setLength_d00df_68 : cJ5_setLength_d00df.data.toList.drop 68 = TJ5_setLength_d00df_68 := dr1 DJ5_setLength_d00df_67
theorem DJ5_setLength_d00df_71 : cJ5_setLength_d00df.data.toList.drop 71 = TJ5_setLength_d00df_71 := dr3 DJ5_setLength_d00df_68
theorem DJ5_setLength_d00df_72 : cJ5_setLength_d00df.data.toList.drop 72 = TJ5_setLength_d00df_72 := dr1 DJ5_setLength_d00df_71
theorem DJ5_setLength_d00df_73 : cJ5_setLength_d00df.data.toList.drop 73 = TJ5_setLength_d00df_73 := dr1 DJ5_setLength_d00df_72
theorem DJ5_setLength_d00df_76 : cJ5_setLength_d00df.data.toList.drop 76 = TJ5_setLength_d00df_76 := dr3 DJ5_setLength_d00df_73
theorem DJ5_setLength_d00df_77 : cJ5_setLength_d00df.data.toList.drop 77 = TJ5_setLength_d00df_77 := dr1 DJ5_setLength_d00df_76
theorem DJ5_setLength_d00df_78 : cJ5_setLength_d00df.data.toList.drop 78 = TJ5_setLength_d00df_78 := dr1 DJ5_setLength_d00df_77
theorem DJ5_setLength_d00df_81 : cJ5_setLength_d00df.data.toList.drop 81 = TJ5_setLength_d00df_81 := dr3 DJ5_setLength_d00df_78
theorem dJ5_setLength_d00df_0 : decode cJ5_setLength_d00df 0 = .ok (.iload_n 1, 1) := do_1b DJ5_setLength_d00df_0
theorem dJ5_setLength_d00df_1 : decode cJ5_setLength_d00df 1 = .ok (.ifCond .ge 12, 3) := do_9c DJ5_setLength_d00df_1 (by decide +kernel)
theorem dJ5_setLength_d00df_4 : decode cJ5_setLength_d00df 4 = .ok (.new 129, 3) := do_bb DJ5_setLength_d00df_4
theorem dJ5_setLength_d00df_7 : decode cJ5_setLength_d00df 7 = .ok (.dup, 1) := do_59 DJ5_setLength_d00df_7
theorem dJ5_setLength_d00df_8 : decode cJ5_setLength_d00df 8 = .ok (.iload_n 1, 1) := do_1b DJ5_setLength_d00df_8
theorem dJ5_setLength_d00df_9 : decode cJ5_setLength_d00df 9 = .ok (.invokespecial 131, 3) := do_b7 DJ5_setLength_d00df_9
theorem dJ5_setLength_d00df_12 : decode cJ5_setLength_d00df 12 = .ok (.athrow, 1) := do_bf DJ5_setLength_d00df_12
theorem dJ5_setLength_d00df_13 : decode cJ5_setLength_d00df 13 = .ok (.aload_n 0, 1) := do_2a DJ5_setLength_d00df_13
theorem dJ5_setLength_d00df_14 : decode cJ5_setLength_d00df 14 = .ok (.iload_n 1, 1) := do_1b DJ5_setLength_d00df_14
theorem dJ5_setLength_d00df_15 : decode cJ5_setLength_d00df 15 = .ok (.invokevirtual 100, 3) := do_b6 DJ5_setLength_d00df_15
theorem dJ5_setLength_d00df_18 : decode cJ5_setLength_d00df 18 = .ok (.aload_n 0, 1) := do_2a DJ5_setLength_d00df_18
theorem dJ5_setLength_d00df_19 : decode cJ5_setLength_d00df 19 = .ok (.getfield 79, 3) := do_b4 DJ5_setLength_d00df_19
theorem dJ5_setLength_d00df_22 : decode cJ5_setLength_d00df 22 = .ok (.iload_n 1, 1) := do_1b DJ5_setLength_d00df_22
theorem dJ5_setLength_d00df_23 : decode cJ5_setLength_d00df 23 = .ok (.if_icmp .ge 40, 3) := do_a2 DJ5_setLength_d00df_23 (by decide +kernel)
theorem dJ5_setLength_d00df_26 : decode cJ5_setLength_d00df 26 = .ok (.aload_n 0, 1) := do_2a DJ5_setLength_d00df_26
theorem dJ5_setLength_d00df_27 : decode cJ5_setLength_d00df 27 = .ok (.invokevirtual 83, 3) := do_b6 DJ5_setLength_d00df_27
theorem dJ5_setLength_d00df_30 : decode cJ5_setLength_d00df 30 = .ok (.ifCond .eq 18, 3) := do_99 DJ5_setLength_d00df_30 (by decide +kernel)
theorem dJ5_setLength_d00df_33 : decode cJ5_setLength_d00df 33 = .ok (.aload_n 0, 1) := do_2a DJ5_setLength_d00df_33
theorem dJ5_setLength_d00df_34 : decode cJ5_setLength_d00df 34 = .ok (.getfield 15, 3) := do_b4 DJ5_setLength_d00df_34
theorem dJ5_setLength_d00df_37 : decode cJ5_setLength_d00df 37 = .ok (.aload_n 0, 1) := do_2a DJ5_setLength_d00df_37
theorem dJ5_setLength_d00df_38 : decode cJ5_setLength_d00df 38 = .ok (.getfield 79, 3) := do_b4 DJ5_setLength_d00df_38
theorem dJ5_setLength_d00df_41 : decode cJ5_setLength_d00df 41 = .ok (.iload_n 1, 1) := do_1b DJ5_setLength_d00df_41
theorem dJ5_setLength_d00df_42 : decode cJ5_setLength_d00df 42 = .ok (.invokestatic 133, 3) := do_b8 DJ5_setLength_d00df_42
theorem dJ5_setLength_d00df_45 : decode cJ5_setLength_d00df 45 = .ok (.goto 31, 3) := do_a7 DJ5_setLength_d00df_45 (by decide +kernel)
theorem dJ5_setLength_d00df_48 : decode cJ5_setLength_d00df 48 = .ok (.aload_n 0, 1) := do_2a DJ5_setLength_d00df_48
theorem dJ5_setLength_d00df_49 : decode cJ5_setLength_d00df 49 = .ok (.getfield 15, 3) := do_b4 DJ5_setLength_d00df_49
theorem dJ5_setLength_d00df_52 : decode cJ5_setLength_d00df 52 = .ok (.aload_n 0, 1) := do_2a DJ5_setLength_d00df_52
theorem dJ5_setLength_d00df_53 : decode cJ5_setLength_d00df 53 = .ok (.getfield 79, 3) := do_b4 DJ5_setLength_d00df_53
theorem dJ5_setLength_d00df_56 : decode cJ5_setLength_d00df 56 = .ok (.iload_n 1, 1) := do_1b DJ5_setLength_d00df_56
theorem dJ5_setLength_d00df_57 : decode cJ5_setLength_d00df 57 = .ok (.invokestatic 137, 3) := do_b8 DJ5_setLength_d00df_57
theorem dJ5_setLength_d00df_60 : decode cJ5_setLength_d00df 60 = .ok (.goto 16, 3) := do_a7 DJ5_setLength_d00df_60 (by decide +kernel)
theorem dJ5_setLength_d00df_63 : decode cJ5_setLength_d00df 63 = .ok (.aload_n 0, 1) := do_2a DJ5_setLength_d00df_63
theorem dJ5_setLength_d00df_64 : decode cJ5_setLength_d00df 64 = .ok (.getfield 79, 3) := do_b4 DJ5_setLength_d00df_64
theorem dJ5_setLength_d00df_67 : decode cJ5_setLength_d00df 67 = .ok (.iload_n 1, 1) := do_1b DJ5_setLength_d00df_67
theorem dJ5_setLength_d00df_68 : decode cJ5_setLength_d00df 68 = .ok (.if_icmp .le 8, 3) := do_a4 DJ5_setLength_d00df_68 (by decide +kernel)
theorem dJ5_setLength_d00df_71 : decode cJ5_setLength_d00df 71 = .ok (.aload_n 0, 1) := do_2a DJ5_setLength_d00df_71
theorem dJ5_setLength_d00df_72 : decode cJ5_setLength_d00df 72 = .ok (.iconst 1, 1) := do_04 DJ5_setLength_d00df_72
theorem dJ5_setLength_d00df_73 : decode cJ5_setLength_d00df 73 = .ok (.putfield 73, 3) := do_b5 DJ5_setLength_d00df_73
theorem dJ5_setLength_d00df_76 : decode cJ5_setLength_d00df 76 = .ok (.aload_n 0, 1) := do_2a DJ5_setLength_d00df_76
theorem dJ5_setLength_d00df_77 : decode cJ5_setLength_d00df 77 = .ok (.iload_n 1, 1) := do_1b DJ5_setLength_d00df_77
theorem dJ5_setLength_d00df_78 : decode cJ5_setLength_d00df 78 = .ok (.putfield 79, 3) := do_b5 DJ5_setLength_d00df_78
theorem dJ5_setLength_d00df_81 : decode cJ5_setLength_d00df 81 = .ok (.return_, 1) := do_b1 DJ5_setLength_d00df_81
def TJ5_charAt_5068e_48 : List UInt8 := []
def TJ5_charAt_5068e_47 : List UInt8 := 172 :: TJ5_charAt_5068e_48
def TJ5_charAt_5068e_44 : List UInt8 := 184 :: 0 :: 148 :: TJ5_charAt_5068e_47
def TJ5_charAt_5068e_43 : List UInt8 := 27 :: TJ5_charAt_5068e_44
def TJ5_charAt_5068e_42 : List UInt8 := 45 :: TJ5_charAt_5068e_43
def TJ5_charAt_5068e_41 : List UInt8 := 172 :: TJ5_charAt_5068e_42
def TJ5_charAt_5068e_40 : List UInt8 := 146 :: TJ5_charAt_5068e_41
def TJ5_charAt_5068e_39 : List UInt8 := 126 :: TJ5_charAt_5068e_40
def TJ5_charAt_5068e_36 : List UInt8 := 17 :: 0 :: 255 :: TJ5_charAt_5068e_39
def TJ5_charAt_5068e_35 : List UInt8 := 51 :: TJ5_charAt_5068e_36
def TJ5_charAt_5068e_34 : List UInt8 := 27 :: TJ5_charAt_5068e_35
def TJ5_charAt_5068e_33 : List UInt8 := 45 :: TJ5_charAt_5068e_34
def TJ5_charAt_5068e_30 : List UInt8 := 154 :: 0 :: 12 :: TJ5_charAt_5068e_33
def TJ5_charAt_5068e_29 : List UInt8 := 28 :: TJ5_charAt_5068e_30
def TJ5_charAt_5068e_26 : List UInt8 := 184 :: 0 :: 144 :: TJ5_charAt_5068e_29
def TJ5_charAt_5068e_24 : List UInt8 := 21 :: 4 :: TJ5_charAt_5068e_26
def TJ5_charAt_5068e_23 : List UInt8 := 27 :: TJ5_charAt_5068e_24
def TJ5_charAt_5068e_21 : List UInt8 := 54 :: 4 :: TJ5_charAt_5068e_23
def TJ5_charAt_5068e_18 : List UInt8 := 184 :: 0 :: 138 :: TJ5_charAt_5068e_21
def TJ5_charAt_5068e_17 : List UInt8 := 122 :: TJ5_charAt_5068e_18
def TJ5_charAt_5068e_16 : List UInt8 := 28 :: TJ5_charAt_5068e_17
def TJ5_charAt_5068e_15 : List UInt8 := 190 :: TJ5_charAt_5068e_16
def TJ5_charAt_5068e_14 : List UInt8 := 45 :: TJ5_charAt_5068e_15
def TJ5_charAt_5068e_11 : List UInt8 := 180 :: 0 :: 79 :: TJ5_charAt_5068e_14
def TJ5_charAt_5068e_10 : List UInt8 := 42 :: TJ5_charAt_5068e_11
def TJ5_charAt_5068e_9 : List UInt8 := 78 :: TJ5_charAt_5068e_10
def TJ5_charAt_5068e_6 : List UInt8 := 180 :: 0 :: 15 :: TJ5_charAt_5068e_9
def TJ5_charAt_5068e_5 : List UInt8 := 42 :: TJ5_charAt_5068e_6
def TJ5_charAt_5068e_4 : List UInt8 := 61 :: TJ5_charAt_5068e_5
def TJ5_charAt_5068e_1 : List UInt8 := 180 :: 0 :: 22 :: TJ5_charAt_5068e_4
def TJ5_charAt_5068e_0 : List UInt8 := 42 :: TJ5_charAt_5068e_1
theorem DJ5_charAt_5068e_0 : cJ5_charAt_5068e.data.toList.drop 0 = TJ5_charAt_5068e_0 := by decide +kernel
theorem DJ5_charAt_5068e_1 : cJ5_charAt_5068e.data.toList.drop 1 = TJ5_charAt_5068e_1 := dr1 DJ5_charAt_5068e_0
theorem DJ5_charAt_5068e_4 : cJ5_charAt_5068e.data.toList.drop 4 = TJ5_charAt_5068e_4 := dr3 DJ5_charAt_5068e_1
theorem DJ5_charAt_5068e_5 : cJ5_charAt_5068e.data.toList.drop 5 = TJ5_charAt_5068e_5 := dr1 DJ5_charAt_5068e_4
theorem DJ5_charAt_5068e_6 : cJ5_charAt_5068e.data.toList.drop 6 = TJ5_charAt_5068e_6 := dr1 DJ5_charAt_5068e_5
theorem DJ5_charAt_5068e_9 : cJ5_charAt_5068e.data.toList.drop 9 = TJ5_charAt_5068e_9 := dr3 DJ5_charAt_5068e_6
theorem DJ5_charAt_5068e_10 : cJ5_charAt_5068e.data.toList.drop 10 = TJ5_charAt_5068e_10 := dr1 DJ5_charAt_5068e_9
theorem DJ5_charAt_5068e_11 : cJ5_charAt_5068e.data.toList.drop 11 = TJ5_charAt_5068e_11 := dr1 DJ5_charAt_5068e_10
theorem DJ5_charAt_5068e_14 : cJ5_charAt_5068e.data.toList.drop 14 = TJ5_charAt_5068e_14 := dr3 DJ5_charAt_5068e_11
theorem DJ5_charAt_5068e_15 : cJ5_charAt_5068e.data.toList.drop 15 = TJ5_charAt_5068e_15 := dr1 DJ5_charAt_5068e_14
theorem DJ5_charAt_5068e_16 : cJ5_charAt_5068e.data.toList.drop 16 = TJ5_charAt_5068e_16 := dr1 DJ5_charAt_5068e_15
theorem DJ5_charAt_5068e_17 : cJ5_charAt_5068e.data.toList.drop 17 = TJ5_charAt_5068e_17 := dr1 DJ5_charAt_5068e_16
theorem DJ5_charAt_5068e_18 : cJ5_charAt_5068e.data.toList.drop 18 = TJ5_charAt_5068e_18 := dr1 DJ5_charAt_5068e_17
theorem DJ5_charAt_5068e_21 : cJ5_charAt_5068e.data.toList.drop 21 = TJ5_charAt_5068e_21 := dr3 DJ5_charAt_5068e_18
theorem DJ5_charAt_5068e_23 : cJ5_charAt_5068e.data.toList.drop 23 = TJ5_charAt_5068e_23 := dr2 DJ5_charAt_5068e_21
theorem DJ5_charAt_5068e_24 : cJ5_charAt_5068e.data.toList.drop 24 = TJ5_charAt_5068e_24 := dr1 DJ5_charAt_5068e_23
theorem DJ5_charAt_5068e_26 : cJ5_charAt_5068e.data.toList.drop 26 = TJ5_charAt_5068e_26 := dr2 DJ5_charAt_5068e_24
theorem DJ5_charAt_5068e_29 : cJ5_charAt_5068e.data.toList.drop 29 = TJ5_charAt_5068e_29 := dr3 DJ5_charAt_5068e_26
theorem DJ5_charAt_5068e_30 : cJ5_charAt_5068e.data.toList.drop 30 = TJ5_charAt_5068e_30 := dr1 DJ5_charAt_5068e_29
theorem DJ5_charAt_5068e_33 : cJ5_charAt_5068e.data.toList.drop 33 = TJ5_charAt_5068e_33 := dr3 DJ5_charAt_5068e_30
theorem DJ5_charAt_5068e_34 : cJ5_charAt_5068e.data.toList.drop 34 = TJ5_charAt_5068e_34 := dr1 DJ5_charAt_5068e_33
theorem DJ5_charAt_5068e_35 : cJ5_charAt_5068e.data.toList.drop 35 = TJ5_charAt_5068e_35 := dr1 DJ5_charAt_5068e_34
theorem DJ5_charAt_5068e_36 : cJ5_charAt_5068e.data.toList.drop 36 = TJ5_charAt_5068e_36 := dr1 DJ5_charAt_5068e_35
theorem DJ5_charAt_5068e_39 : cJ5_charAt_5068e.data.toList.drop 39 = TJ5_charAt_5068e_39 := dr3 DJ5_charAt_5068e_36
theorem DJ5_charAt_5068e_40 : cJ5_charAt_5068e.data.toList.drop 40 = TJ5_charAt_5068e_40 := dr1 DJ5_charAt_5068e_39
theorem DJ5_charAt_5068e_41 : cJ5_charAt_5068e.data.toList.drop 41 = TJ5_charAt_5068e_41 := dr1 DJ5_charAt_5068e_40
theorem DJ5_charAt_5068e_42 : cJ5_charAt_5068e.data.toList.drop 42 = TJ5_charAt_5068e_42 := dr1 DJ5_charAt_5068e_41
theorem DJ5_charAt_5068e_43 : cJ5_charAt_5068e.data.toList.drop 43 = TJ5_charAt_5068e_43 := dr1 DJ5_charAt_5068e_42
theorem DJ5_charAt_5068e_44 : cJ5_charAt_5068e.data.toList.drop 44 = TJ5_charAt_5068e_44 := dr1 DJ5_charAt_5068e_43
theorem DJ5_charAt_5068e_47 : cJ5_charAt_5068e.data.toList.drop 47 = TJ5_charAt_5068e_47 := dr3 DJ5_charAt_5068e_44
theorem dJ5_charAt_5068e_0 : decode cJ5_charAt_5068e 0 = .ok (.aload_n 0, 1) := do_2a DJ5_charAt_5068e_0
theorem dJ5_charAt_5068e_1 : decode cJ5_charAt_5068e 1 = .ok (.getfield 22, 3) := do_b4 DJ5_charAt_5068e_1
theorem dJ5_charAt_5068e_4 : decode cJ5_charAt_5068e 4 = .ok (.istore_n 2, 1) := do_3d DJ5_charAt_5068e_4
theorem dJ5_charAt_5068e_5 : decode cJ5_charAt_5068e 5 = .ok (.aload_n 0, 1) := do_2a DJ5_charAt_5068e_5
theorem dJ5_charAt_5068e_6 : decode cJ5_charAt_5068e 6 = .ok (.getfield 15, 3) := do_b4 DJ5_charAt_5068e_6
theorem dJ5_charAt_5068e_9 : decode cJ5_charAt_5068e 9 = .ok (.astore_n 3, 1) := do_4e DJ5_charAt_5068e_9
theorem dJ5_charAt_5068e_10 : decode cJ5_charAt_5068e 10 = .ok (.aload_n 0, 1) := do_2a DJ5_charAt_5068e_10
theorem dJ5_charAt_5068e_11 : decode cJ5_charAt_5068e 11 = .ok (.getfield 79, 3) := do_b4 DJ5_charAt_5068e_11
theorem dJ5_charAt_5068e_14 : decode cJ5_charAt_5068e 14 = .ok (.aload_n 3, 1) := do_2d DJ5_charAt_5068e_14
theorem dJ5_charAt_5068e_15 : decode cJ5_charAt_5068e 15 = .ok (.arraylength, 1) := do_be DJ5_charAt_5068e_15
theorem dJ5_charAt_5068e_16 : decode cJ5_charAt_5068e 16 = .ok (.iload_n 2, 1) := do_1c DJ5_charAt_5068e_16
theorem dJ5_charAt_5068e_17 : decode cJ5_charAt_5068e 17 = .ok (.ishr, 1) := do_7a DJ5_charAt_5068e_17
theorem dJ5_charAt_5068e_18 : decode cJ5_charAt_5068e 18 = .ok (.invokestatic 138, 3) := do_b8 DJ5_charAt_5068e_18
theorem dJ5_charAt_5068e_21 : decode cJ5_charAt_5068e 21 = .ok (.istore 4, 2) := do_36 DJ5_charAt_5068e_21
theorem dJ5_charAt_5068e_23 : decode cJ5_charAt_5068e 23 = .ok (.iload_n 1, 1) := do_1b DJ5_charAt_5068e_23
theorem dJ5_charAt_5068e_24 : decode cJ5_charAt_5068e 24 = .ok (.iload 4, 2) := do_15 DJ5_charAt_5068e_24
theorem dJ5_charAt_5068e_26 : decode cJ5_charAt_5068e 26 = .ok (.invokestatic 144, 3) := do_b8 DJ5_charAt_5068e_26
theorem dJ5_charAt_5068e_29 : decode cJ5_charAt_5068e 29 = .ok (.iload_n 2, 1) := do_1c DJ5_charAt_5068e_29
theorem dJ5_charAt_5068e_30 : decode cJ5_charAt_5068e 30 = .ok (.ifCond .ne 12, 3) := do_9a DJ5_charAt_5068e_30 (by decide +kernel)
theorem dJ5_charAt_5068e_33 : decode cJ5_charAt_5068e 33 = .ok (.aload_n 3, 1) := do_2d DJ5_charAt_5068e_33
theorem dJ5_charAt_5068e_34 : decode cJ5_charAt_5068e 34 = .ok (.iload_n 1, 1) := do_1b DJ5_charAt_5068e_34
theorem dJ5_charAt_5068e_35 : decode cJ5_charAt_5068e 35 = .ok (.baload, 1) := do_33 DJ5_charAt_5068e_35
theorem dJ5_charAt_5068e_36 : decode cJ5_charAt_5068e 36 = .ok (.sipush 255, 3) := do_11 DJ5_charAt_5068e_36 (by decide +kernel)
theorem dJ5_charAt_5068e_39 : decode cJ5_charAt_5068e 39 = .ok (.iand, 1) := do_7e DJ5_charAt_5068e_39
theorem dJ5_charAt_5068e_40 : decode cJ5_charAt_5068e 40 = .ok (.i2c, 1) := do_92 DJ5_charAt_5068e_40
theorem dJ5_charAt_5068e_41 : decode cJ5_charAt_5068e 41 = .ok (.ireturn, 1) := do_ac DJ5_charAt_5068e_41
theorem dJ5_charAt_5068e_42 : decode cJ5_charAt_5068e 42 = .ok (.aload_n 3, 1) := do_2d DJ5_charAt_5068e_42
theorem dJ5_charAt_5068e_43 : decode cJ5_charAt_5068e 43 = .ok (.iload_n 1, 1) := do_1b DJ5_charAt_5068e_43
theorem dJ5_charAt_5068e_44 : decode cJ5_charAt_5068e 44 = .ok (.invokestatic 148, 3) := do_b8 DJ5_charAt_5068e_44
theorem dJ5_charAt_5068e_47 : decode cJ5_charAt_5068e 47 = .ok (.ireturn, 1) := do_ac DJ5_charAt_5068e_47
def TJ5_append_cf1ce_45 : List UInt8 := []
def TJ5_append_cf1ce_44 : List UInt8 := 176 :: TJ5_append_cf1ce_45
def TJ5_append_cf1ce_43 : List UInt8 := 42 :: TJ5_append_cf1ce_44
def TJ5_append_cf1ce_40 : List UInt8 := 181 :: 0 :: 79 :: TJ5_append_cf1ce_43
def TJ5_append_cf1ce_39 : List UInt8 := 96 :: TJ5_append_cf1ce_40
def TJ5_append_cf1ce_38 : List UInt8 := 28 :: TJ5_append_cf1ce_39
def TJ5_append_cf1ce_35 : List UInt8 := 180 :: 0 :: 79 :: TJ5_append_cf1ce_38
def TJ5_append_cf1ce_34 : List UInt8 := 89 :: TJ5_append_cf1ce_35
def TJ5_append_cf1ce_33 : List UInt8 := 42 :: TJ5_append_cf1ce_34
def TJ5_append_cf1ce_30 : List UInt8 := 182 :: 0 :: 208 :: TJ5_append_cf1ce_33
def TJ5_append_cf1ce_29 : List UInt8 := 43 :: TJ5_append_cf1ce_30
def TJ5_append_cf1ce_26 : List UInt8 := 180 :: 0 :: 79 :: TJ5_append_cf1ce_29
def TJ5_append_cf1ce_25 : List UInt8 := 42 :: TJ5_append_cf1ce_26
def TJ5_append_cf1ce_24 : List UInt8 := 42 :: TJ5_append_cf1ce_25
def TJ5_append_cf1ce_21 : List UInt8 := 182 :: 0 :: 100 :: TJ5_append_cf1ce_24
def TJ5_append_cf1ce_20 : List UInt8 := 96 :: TJ5_append_cf1ce_21
def TJ5_append_cf1ce_19 : List UInt8 := 28 :: TJ5_append_cf1ce_20
def TJ5_append_cf1ce_16 : List UInt8 := 180 :: 0 :: 79 :: TJ5_append_cf1ce_19
def TJ5_append_cf1ce_15 : List UInt8 := 42 :: TJ5_append_cf1ce_16
def TJ5_append_cf1ce_14 : List UInt8 := 42 :: TJ5_append_cf1ce_15
def TJ5_append_cf1ce_13 : List UInt8 := 61 :: TJ5_append_cf1ce_14
def TJ5_append_cf1ce_10 : List UInt8 := 182 :: 0 :: 32 :: TJ5_append_cf1ce_13
def TJ5_append_cf1ce_9 : List UInt8 := 43 :: TJ5_append_cf1ce_10
def TJ5_append_cf1ce_8 : List UInt8 := 176 :: TJ5_append_cf1ce_9
def TJ5_append_cf1ce_5 : List UInt8 := 182 :: 0 :: 204 :: TJ5_append_cf1ce_8
def TJ5_append_cf1ce_4 : List UInt8 := 42 :: TJ5_append_cf1ce_5
def TJ5_append_cf1ce_1 : List UInt8 := 199 :: 0 :: 8 :: TJ5_append_cf1ce_4
def TJ5_append_cf1ce_0 : List UInt8 := 43 :: TJ5_append_cf1ce_1
theorem DJ5_append_cf1ce_0 : cJ5_append_cf1ce.data.toList.drop 0 = TJ5_append_cf1ce_0 := by decide +kernel
theorem DJ5_append_cf1ce_1 : cJ5_append_cf1ce.data.toList.drop 1 = TJ5_append_cf1ce_1 := dr1 DJ5_append_cf1ce_0
theorem DJ5_append_cf1ce_4 : cJ5_append_cf1ce.data.toList.drop 4 = TJ5_append_cf1ce_4 := dr3 DJ5_append_cf1ce_1
theorem DJ5_append_cf1ce_5 : cJ5_append_cf1ce.data.toList.drop 5 = TJ5_append_cf1ce_5 := dr1 DJ5_append_cf1ce_4
theorem DJ5_append_cf1ce_8 : cJ5_append_cf1ce.data.toList.drop 8 = TJ5_append_cf1ce_8 := dr3 DJ5_append_cf1ce_5
theorem DJ5_append_cf1ce_9 : cJ5_append_cf1ce.data.toList.drop 9 = TJ5_append_cf1ce_9 := dr1 DJ5_append_cf1ce_8
theorem DJ5_append_cf1ce_10 : cJ5_append_cf1ce.data.toList.drop 10 = TJ5_append_cf1ce_10 := dr1 DJ5_append_cf1ce_9
theorem DJ5_append_cf1ce_13 : cJ5_append_cf1ce.data.toList.drop 13 = TJ5_append_cf1ce_13 := dr3 DJ5_append_cf1ce_10
theorem DJ5_append_cf1ce_14 : cJ5_append_cf1ce.data.toList.drop 14 = TJ5_append_cf1ce_14 := dr1 DJ5_append_cf1ce_13
theorem DJ5_append_cf1ce_15 : cJ5_append_cf1ce.data.toList.drop 15 = TJ5_append_cf1ce_15 := dr1 DJ5_append_cf1ce_14
theorem DJ5_append_cf1ce_16 : cJ5_append_cf1ce.data.toList.drop 16 = TJ5_append_cf1ce_16 := dr1 DJ5_append_cf1ce_15
theorem DJ5_append_cf1ce_19 : cJ5_append_cf1ce.data.toList.drop 19 = TJ5_append_cf1ce_19 := dr3 DJ5_append_cf1ce_16
theorem DJ5_append_cf1ce_20 : cJ5_append_cf1ce.data.toList.drop 20 = TJ5_append_cf1ce_20 := dr1 DJ5_append_cf1ce_19
theorem DJ5_append_cf1ce_21 : cJ5_append_cf1ce.data.toList.drop 21 = TJ5_append_cf1ce_21 := dr1 DJ5_append_cf1ce_20
theorem DJ5_append_cf1ce_24 : cJ5_append_cf1ce.data.toList.drop 24 = TJ5_append_cf1ce_24 := dr3 DJ5_append_cf1ce_21
theorem DJ5_append_cf1ce_25 : cJ5_append_cf1ce.data.toList.drop 25 = TJ5_append_cf1ce_25 := dr1 DJ5_append_cf1ce_24
theorem DJ5_append_cf1ce_26 : cJ5_append_cf1ce.data.toList.drop 26 = TJ5_append_cf1ce_26 := dr1 DJ5_append_cf1ce_25
theorem DJ5_append_cf1ce_29 : cJ5_append_cf1ce.data.toList.drop 29 = TJ5_append_cf1ce_29 := dr3 DJ5_append_cf1ce_26
theorem DJ5_append_cf1ce_30 : cJ5_append_cf1ce.data.toList.drop 30 = TJ5_append_cf1ce_30 := dr1 DJ5_append_cf1ce_29
theorem DJ5_append_cf1ce_33 : cJ5_append_cf1ce.data.toList.drop 33 = TJ5_append_cf1ce_33 := dr3 DJ5_append_cf1ce_30
theorem DJ5_append_cf1ce_34 : cJ5_append_cf1ce.data.toList.drop 34 = TJ5_append_cf1ce_34 := dr1 DJ5_append_cf1ce_33
theorem DJ5_append_cf1ce_35 : cJ5_append_cf1ce.data.toList.drop 35 = TJ5_append_cf1ce_35 := dr1 DJ5_append_cf1ce_34
theorem DJ5_append_cf1ce_38 : cJ5_append_cf1ce.data.toList.drop 38 = TJ5_append_cf1ce_38 := dr3 DJ5_append_cf1ce_35
theorem DJ5_append_cf1ce_39 : cJ5_append_cf1ce.data.toList.drop 39 = TJ5_append_cf1ce_39 := dr1 DJ5_append_cf1ce_38
theorem DJ5_append_cf1ce_40 : cJ5_append_cf1ce.data.toList.drop 40 = TJ5_append_cf1ce_40 := dr1 DJ5_append_cf1ce_39
theorem DJ5_append_cf1ce_43 : cJ5_append_cf1ce.data.toList.drop 43 = TJ5_append_cf1ce_43 := dr3 DJ5_append_cf1ce_40
theorem DJ5_append_cf1ce_44 : cJ5_append_cf1ce.data.toList.drop 44 = TJ5_append_cf1ce_44 := dr1 DJ5_append_cf1ce_43
theorem dJ5_append_cf1ce_0 : decode cJ5_append_cf1ce 0 = .ok (.aload_n 1, 1) := do_2b DJ5_append_cf1ce_0
theorem dJ5_append_cf1ce_1 : decode cJ5_append_cf1ce 1 = .ok (.ifnonnull 8, 3) := do_c7 DJ5_append_cf1ce_1 (by decide +kernel)
theorem dJ5_append_cf1ce_4 : decode cJ5_append_cf1ce 4 = .ok (.aload_n 0, 1) := do_2a DJ5_append_cf1ce_4
theorem dJ5_append_cf1ce_5 : decode cJ5_append_cf1ce 5 = .ok (.invokevirtual 204, 3) := do_b6 DJ5_append_cf1ce_5
theorem dJ5_append_cf1ce_8 : decode cJ5_append_cf1ce 8 = .ok (.areturn, 1) := do_b0 DJ5_append_cf1ce_8
theorem dJ5_append_cf1ce_9 : decode cJ5_append_cf1ce 9 = .ok (.aload_n 1, 1) := do_2b DJ5_append_cf1ce_9
theorem dJ5_append_cf1ce_10 : decode cJ5_append_cf1ce 10 = .ok (.invokevirtual 32, 3) := do_b6 DJ5_append_cf1ce_10
theorem dJ5_append_cf1ce_13 : decode cJ5_append_cf1ce 13 = .ok (.istore_n 2, 1) := do_3d DJ5_append_cf1ce_13
theorem dJ5_append_cf1ce_14 : decode cJ5_append_cf1ce 14 = .ok (.aload_n 0, 1) := do_2a DJ5_append_cf1ce_14
theorem dJ5_append_cf1ce_15 : decode cJ5_append_cf1ce 15 = .ok (.aload_n 0, 1) := do_2a DJ5_append_cf1ce_15
theorem dJ5_append_cf1ce_16 : decode cJ5_append_cf1ce 16 = .ok (.getfield 79, 3) := do_b4 DJ5_append_cf1ce_16
theorem dJ5_append_cf1ce_19 : decode cJ5_append_cf1ce 19 = .ok (.iload_n 2, 1) := do_1c DJ5_append_cf1ce_19
theorem dJ5_append_cf1ce_20 : decode cJ5_append_cf1ce 20 = .ok (.iadd, 1) := do_60 DJ5_append_cf1ce_20
theorem dJ5_append_cf1ce_21 : decode cJ5_append_cf1ce 21 = .ok (.invokevirtual 100, 3) := do_b6 DJ5_append_cf1ce_21
theorem dJ5_append_cf1ce_24 : decode cJ5_append_cf1ce 24 = .ok (.aload_n 0, 1) := do_2a DJ5_append_cf1ce_24
theorem dJ5_append_cf1ce_25 : decode cJ5_append_cf1ce 25 = .ok (.aload_n 0, 1) := do_2a DJ5_append_cf1ce_25
theorem dJ5_append_cf1ce_26 : decode cJ5_append_cf1ce 26 = .ok (.getfield 79, 3) := do_b4 DJ5_append_cf1ce_26
theorem dJ5_append_cf1ce_29 : decode cJ5_append_cf1ce 29 = .ok (.aload_n 1, 1) := do_2b DJ5_append_cf1ce_29
theorem dJ5_append_cf1ce_30 : decode cJ5_append_cf1ce 30 = .ok (.invokevirtual 208, 3) := do_b6 DJ5_append_cf1ce_30
theorem dJ5_append_cf1ce_33 : decode cJ5_append_cf1ce 33 = .ok (.aload_n 0, 1) := do_2a DJ5_append_cf1ce_33
theorem dJ5_append_cf1ce_34 : decode cJ5_append_cf1ce 34 = .ok (.dup, 1) := do_59 DJ5_append_cf1ce_34
theorem dJ5_append_cf1ce_35 : decode cJ5_append_cf1ce 35 = .ok (.getfield 79, 3) := do_b4 DJ5_append_cf1ce_35
theorem dJ5_append_cf1ce_38 : decode cJ5_append_cf1ce 38 = .ok (.iload_n 2, 1) := do_1c DJ5_append_cf1ce_38
theorem dJ5_append_cf1ce_39 : decode cJ5_append_cf1ce 39 = .ok (.iadd, 1) := do_60 DJ5_append_cf1ce_39
theorem dJ5_append_cf1ce_40 : decode cJ5_append_cf1ce 40 = .ok (.putfield 79, 3) := do_b5 DJ5_append_cf1ce_40
theorem dJ5_append_cf1ce_43 : decode cJ5_append_cf1ce 43 = .ok (.aload_n 0, 1) := do_2a DJ5_append_cf1ce_43
theorem dJ5_append_cf1ce_44 : decode cJ5_append_cf1ce 44 = .ok (.areturn, 1) := do_b0 DJ5_append_cf1ce_44
def TJ5_appendNull_278bc_83 : List UInt8 := []
def TJ5_appendNull_278bc_82 : List UInt8 := 176 :: TJ5_appendNull_278bc_83
def TJ5_appendNull_278bc_81 : List UInt8 := 42 :: TJ5_appendNull_278bc_82
def TJ5_appendNull_278bc_78 : List UInt8 := 181 :: 0 :: 79 :: TJ5_appendNull_278bc_81
def TJ5_appendNull_278bc_77 : List UInt8 := 27 :: TJ5_appendNull_278bc_78
def TJ5_appendNull_278bc_76 : List UInt8 := 42 :: TJ5_appendNull_278bc_77
def TJ5_appendNull_278bc_75 : List UInt8 := 60 :: TJ5_appendNull_278bc_76
def TJ5_appendNull_278bc_72 : List UInt8 := 184 :: 0 :: 226 :: TJ5_appendNull_278bc_75
def TJ5_appendNull_278bc_70 : List UInt8 := 16 :: 108 :: TJ5_appendNull_278bc_72
def TJ5_appendNull_278bc_68 : List UInt8 := 16 :: 108 :: TJ5_appendNull_278bc_70
def TJ5_appendNull_278bc_66 : List UInt8 := 16 :: 117 :: TJ5_appendNull_278bc_68
def TJ5_appendNull_278bc_64 : List UInt8 := 16 :: 110 :: TJ5_appendNull_278bc_66
def TJ5_appendNull_278bc_63 : List UInt8 := 27 :: TJ5_appendNull_278bc_64
def TJ5_appendNull_278bc_62 : List UInt8 := 44 :: TJ5_appendNull_278bc_63
def TJ5_appendNull_278bc_59 : List UInt8 := 167 :: 0 :: 17 :: TJ5_appendNull_278bc_62
def TJ5_appendNull_278bc_58 : List UInt8 := 84 :: TJ5_appendNull_278bc_59
def TJ5_appendNull_278bc_56 : List UInt8 := 16 :: 108 :: TJ5_appendNull_278bc_58
def TJ5_appendNull_278bc_53 : List UInt8 := 132 :: 1 :: 1 :: TJ5_appendNull_278bc_56
def TJ5_appendNull_278bc_52 : List UInt8 := 27 :: TJ5_appendNull_278bc_53
def TJ5_appendNull_278bc_51 : List UInt8 := 44 :: TJ5_appendNull_278bc_52
def TJ5_appendNull_278bc_50 : List UInt8 := 84 :: TJ5_appendNull_278bc_51
def TJ5_appendNull_278bc_48 : List UInt8 := 16 :: 108 :: TJ5_appendNull_278bc_50
def TJ5_appendNull_278bc_45 : List UInt8 := 132 :: 1 :: 1 :: TJ5_appendNull_278bc_48
def TJ5_appendNull_278bc_44 : List UInt8 := 27 :: TJ5_appendNull_278bc_45
def TJ5_appendNull_278bc_43 : List UInt8 := 44 :: TJ5_appendNull_278bc_44
def TJ5_appendNull_278bc_42 : List UInt8 := 84 :: TJ5_appendNull_278bc_43
def TJ5_appendNull_278bc_40 : List UInt8 := 16 :: 117 :: TJ5_appendNull_278bc_42
def TJ5_appendNull_278bc_37 : List UInt8 := 132 :: 1 :: 1 :: TJ5_appendNull_278bc_40
def TJ5_appendNull_278bc_36 : List UInt8 := 27 :: TJ5_appendNull_278bc_37
def TJ5_appendNull_278bc_35 : List UInt8 := 44 :: TJ5_appendNull_278bc_36
def TJ5_appendNull_278bc_34 : List UInt8 := 84 :: TJ5_appendNull_278bc_35
def TJ5_appendNull_278bc_32 : List UInt8 := 16 :: 110 :: TJ5_appendNull_278bc_34
def TJ5_appendNull_278bc_29 : List UInt8 := 132 :: 1 :: 1 :: TJ5_appendNull_278bc_32
def TJ5_appendNull_278bc_28 : List UInt8 := 27 :: TJ5_appendNull_278bc_29
def TJ5_appendNull_278bc_27 : List UInt8 := 44 :: TJ5_appendNull_278bc_28
def TJ5_appendNull_278bc_24 : List UInt8 := 153 :: 0 :: 38 :: TJ5_appendNull_278bc_27
def TJ5_appendNull_278bc_21 : List UInt8 := 182 :: 0 :: 83 :: TJ5_appendNull_278bc_24
def TJ5_appendNull_278bc_20 : List UInt8 := 42 :: TJ5_appendNull_278bc_21
def TJ5_appendNull_278bc_19 : List UInt8 := 77 :: TJ5_appendNull_278bc_20
def TJ5_appendNull_278bc_16 : List UInt8 := 180 :: 0 :: 15 :: TJ5_appendNull_278bc_19
def TJ5_appendNull_278bc_15 : List UInt8 := 42 :: TJ5_appendNull_278bc_16
def TJ5_appendNull_278bc_14 : List UInt8 := 60 :: TJ5_appendNull_278bc_15
def TJ5_appendNull_278bc_11 : List UInt8 := 180 :: 0 :: 79 :: TJ5_appendNull_278bc_14
def TJ5_appendNull_278bc_10 : List UInt8 := 42 :: TJ5_appendNull_278bc_11
def TJ5_appendNull_278bc_7 : List UInt8 := 182 :: 0 :: 100 :: TJ5_appendNull_278bc_10
def TJ5_appendNull_278bc_6 : List UInt8 := 96 :: TJ5_appendNull_278bc_7
def TJ5_appendNull_278bc_5 : List UInt8 := 7 :: TJ5_appendNull_278bc_6
def TJ5_appendNull_278bc_2 : List UInt8 := 180 :: 0 :: 79 :: TJ5_appendNull_278bc_5
def TJ5_appendNull_278bc_1 : List UInt8 := 42 :: TJ5_appendNull_278bc_2
def TJ5_appendNull_278bc_0 : List UInt8 := 42 :: TJ5_appendNull_278bc_1
theorem DJ5_appendNull_278bc_0 : cJ5_appendNull_278bc.data.toList.drop 0 = TJ5_appendNull_278bc_0 := by decide +kernel
theorem DJ5_appendNull_278bc_1 : cJ5_appendNull_278bc.data.toList.drop 1 = TJ5_appendNull_278bc_1 := dr1 DJ5_appendNull_278bc_0
theorem DJ5_appendNull_278bc_2 : cJ5_appendNull_278bc.data.toList.drop 2 = TJ5_appendNull_278bc_2 := dr1 DJ5_appendNull_278bc_1
theorem DJ5_appendNull_278bc_5 : cJ5_appendNull_278bc.data.toList.drop 5 = TJ5_appendNull_278bc_5 := dr3 DJ5_appendNull_278bc_2
theorem DJ5_appendNull_278bc_6 : cJ5_appendNull_278bc.data.toList.drop 6 = TJ5_appendNull_278bc_6 := dr1 DJ5_appendNull_278bc_5
theorem DJ5_appendNull_278bc_7 : cJ5_appendNull_278bc.data.toList.drop 7 = TJ5_appendNull_278bc_7 := dr1 DJ5_appendNull_278bc_6
theorem DJ5_appendNull_278bc_10 : cJ5_appendNull_278bc.data.toList.drop 10 = TJ5_appendNull_278bc_10 := dr3 DJ5_appendNull_278bc_7
theorem DJ5_appendNull_278bc_11 : cJ5_appendNull_278bc.data.toList.drop 11 = TJ5_appendNull_278bc_11 := dr1 DJ5_appendNull_278bc_10
theorem DJ5_appendNull_278bc_14 : cJ5_appendNull_278bc.data.toList.drop 14 = TJ5_appendNull_278bc_14 := dr3 DJ5_appendNull_278bc_11
theorem DJ5_appendNull_278bc_15 : cJ5_appendNull_278bc.data.toList.drop 15 = TJ5_appendNull_278bc_15 := dr1 DJ5_appendNull_278bc_14
theorem DJ5_appendNull_278bc_16 : cJ5_appendNull_278bc.data.toList.drop 16 = TJ5_appendNull_278bc_16 := dr1 DJ5_appendNull_278bc_15
theorem DJ5_appendNull_278bc_19 : cJ5_appendNull_278bc.data.toList.drop 19 = TJ5_appendNull_278bc_19 := dr3 DJ5_appendNull_278bc_16
theorem DJ5_appendNull_278bc_20 : cJ5_appendNull_278bc.data.toList.drop 20 = TJ5_appendNull_278bc_20 := dr1 DJ5_appendNull_278bc_19
theorem DJ5_appendNull_278bc_21 : cJ5_appendNull_278bc.data.toList.drop 21 = TJ5_appendNull_278bc_21 := dr1 DJ5_appendNull_278bc_20
theorem DJ5_appendNull_278bc_24 : cJ5_appendNull_278bc.data.toList.drop 24 = TJ5_appendNull_278bc_24 := dr3 DJ5_appendNull_278bc_21
theorem DJ5_appendNull_278bc_27 : cJ5_appendNull_278bc.data.toList.drop 27 = TJ5_appendNull_278bc_27 := dr3 DJ5_appendNull_278bc_24
theorem DJ5_appendNull_278bc_28 : cJ5_appendNull_278bc.data.toList.drop 28 = TJ5_appendNull_278bc_28 := dr1 DJ5_appendNull_278bc_27
theorem DJ5_appendNull_278bc_29 : cJ5_appendNull_278bc.data.toList.drop 29 = TJ5_appendNull_278bc_29 := dr1 DJ5_appendNull_278bc_28
theorem DJ5_appendNull_278bc_32 : cJ5_appendNull_278bc.data.toList.drop 32 = TJ5_appendNull_278bc_32 := dr3 DJ5_appendNull_278bc_29
theorem DJ5_appendNull_278bc_34 : cJ5_appendNull_278bc.data.toList.drop 34 = TJ5_appendNull_278bc_34 := dr2 DJ5_appendNull_278bc_32
theorem DJ5_appendNull_278bc_35 : cJ5_appendNull_278bc.data.toList.drop 35 = TJ5_appendNull_278bc_35 := dr1 DJ5_appendNull_278bc_34
theorem DJ5_appendNull_278bc_36 : cJ5_appendNull_278bc.data.toList.drop 36 = TJ5_appendNull_278bc_36 := dr1 DJ5_appendNull_278bc_35
theorem DJ5_appendNull_278bc_37 : cJ5_appendNull_278bc.data.toList.drop 37 = TJ5_appendNull_278bc_37 := dr1 DJ5_appendNull_278bc_36
theorem DJ5_appendNull_278bc_40 : cJ5_appendNull_278bc.data.toList.drop 40 = TJ5_appendNull_278bc_40 := dr3 DJ5_appendNull_278bc_37
theorem DJ5_appendNull_278bc_42 : cJ5_appendNull_278bc.data.toList.drop 42 = TJ5_appendNull_278bc_42 := dr2 DJ5_appendNull_278bc_40
theorem DJ5_appendNull_278bc_43 : cJ5_appendNull_278bc.data.toList.drop 43 = TJ5_appendNull_278bc_43 := dr1 DJ5_appendNull_278bc_42
theorem DJ5_appendNull_278bc_44 : cJ5_appendNull_278bc.data.toList.drop 44 = TJ5_appendNull_278bc_44 := dr1 DJ5_appendNull_278bc_43
theorem DJ5_appendNull_278bc_45 : cJ5_appendNull_278bc.data.toList.drop 45 = TJ5_appendNull_278bc_45 := dr1 DJ5_appendNull_278bc_44
theorem DJ5_appendNull_278bc_48 : cJ5_appendNull_278bc.data.toList.drop 48 = TJ5_appendNull_278bc_48 := dr3 DJ5_appendNull_278bc_45
theorem DJ5_appendNull_278bc_50 : cJ5_appendNull_278bc.data.toList.drop 50 = TJ5_appendNull_278bc_50 := dr2 DJ5_appendNull_278bc_48
theorem DJ5_appendNull_278bc_51 : cJ5_appendNull_278bc.data.toList.drop 51 = TJ5_appendNull_278bc_51 := dr1 DJ5_appendNull_278bc_50
theorem DJ5_appendNull_278bc_52 : cJ5_appendNull_278bc.data.toList.drop 52 = TJ5_appendNull_278bc_52 := dr1 DJ5_appendNull_278bc_51
theorem DJ5_appendNull_278bc_53 : cJ5_appendNull_278bc.data.toList.drop 53 = TJ5_appendNull_278bc_53 := dr1 DJ5_appendNull_278bc_52
theorem DJ5_appendNull_278bc_56 : cJ5_appendNull_278bc.data.toList.drop 56 = TJ5_appendNull_278bc_56 := dr3 DJ5_appendNull_278bc_53
theorem DJ5_appendNull_278bc_58 : cJ5_appendNull_278bc.data.toList.drop 58 = TJ5_appendNull_278bc_58 := dr2 DJ5_appendNull_278bc_56
theorem DJ5_appendNull_278bc_59 : cJ5_appendNull_278bc.data.toList.drop 59 = TJ5_appendNull_278bc_59 := dr1 DJ5_appendNull_278bc_58
theorem DJ5_appendNull_278bc_62 : cJ5_appendNull_278bc.data.toList.drop 62 = TJ5_appendNull_278bc_62 := dr3 DJ5_appendNull_278bc_59
theorem DJ5_appendNull_278bc_63 : cJ5_appendNull_278bc.data.toList.drop 63 = TJ5_appendNull_278bc_63 := dr1 DJ5_appendNull_278bc_62
theorem DJ5_appendNull_278bc_64 : cJ5_appendNull_278bc.data.toList.drop 64 = TJ5_appendNull_278bc_64 := dr1 DJ5_appendNull_278bc_63
theorem DJ5_appendNull_278bc_66 : cJ5_appendNull_278bc.data.toList.drop 66 = TJ5_appendNull_278bc_66 := dr2 DJ5_appendNull_278bc_64
theorem DJ5_appendNull_278bc_68 : cJ5_appendNull_278bc.data.toList.drop 68 = TJ5_appendNull_278bc_68 := dr2 DJ5_appendNull_278bc_66
theorem DJ5_appendNull_278bc_70 : cJ5_appendNull_278bc.data.toList.drop 70 = TJ5_appendNull_278bc_70 := dr2 DJ5_appendNull_278bc_68
theorem DJ5_appendNull_278bc_72 : cJ5_appendNull_278bc.data.toList.drop 72 = TJ5_appendNull_278bc_72 := dr2 DJ5_appendNull_278bc_70
theorem DJ5_appendNull_278bc_75 : cJ5_appendNull_278bc.data.toList.drop 75 = TJ5_appendNull_278bc_75 := dr3 DJ5_appendNull_278bc_72
theorem DJ5_appendNull_278bc_76 : cJ5_appendNull_278bc.data.toList.drop 76 = TJ5_appendNull_278bc_76 := dr1 DJ5_appendNull_278bc_75
theorem DJ5_appendNull_278bc_77 : cJ5_appendNull_278bc.data.toList.drop 77 = TJ5_appendNull_278bc_77 := dr1 DJ5_appendNull_278bc_76
theorem DJ5_appendNull_278bc_78 : cJ5_appendNull_278bc.data.toList.drop 78 = TJ5_appendNull_278bc_78 := dr1 DJ5_appendNull_278bc_77
theorem DJ5_appendNull_278bc_81 : cJ5_appendNull_278bc.data.toList.drop 81 = TJ5_appendNull_278bc_81 := dr3 DJ5_appendNull_278bc_78
theorem DJ5_appendNull_278bc_82 : cJ5_appendNull_278bc.data.toList.drop 82 = TJ5_appendNull_278bc_82 := dr1 DJ5_appendNull_278bc_81
theorem dJ5_appendNull_278bc_0 : decode cJ5_appendNull_278bc 0 = .ok (.aload_n 0, 1) := do_2a DJ5_appendNull_278bc_0
theorem dJ5_appendNull_278bc_1 : decode cJ5_appendNull_278bc 1 = .ok (.aload_n 0, 1) := do_2a DJ5_appendNull_278bc_1
theorem dJ5_appendNull_278bc_2 : decode cJ5_appendNull_278bc 2 = .ok (.getfield 79, 3) := do_b4 DJ5_appendNull_278bc_2
theorem dJ5_appendNull_278bc_5 : decode cJ5_appendNull_278bc 5 = .ok (.iconst 4, 1) := do_07 DJ5_appendNull_278bc_5
theorem dJ5_appendNull_278bc_6 : decode cJ5_appendNull_278bc 6 = .ok (.iadd, 1) := do_60 DJ5_appendNull_278bc_6
theorem dJ5_appendNull_278bc_7 : decode cJ5_appendNull_278bc 7 = .ok (.invokevirtual 100, 3) := do_b6 DJ5_appendNull_278bc_7
theorem dJ5_appendNull_278bc_10 : decode cJ5_appendNull_278bc 10 = .ok (.aload_n 0, 1) := do_2a DJ5_appendNull_278bc_10
theorem dJ5_appendNull_278bc_11 : decode cJ5_appendNull_278bc 11 = .ok (.getfield 79, 3) := do_b4 DJ5_appendNull_278bc_11
theorem dJ5_appendNull_278bc_14 : decode cJ5_appendNull_278bc 14 = .ok (.istore_n 1, 1) := do_3c DJ5_appendNull_278bc_14
theorem dJ5_appendNull_278bc_15 : decode cJ5_appendNull_278bc 15 = .ok (.aload_n 0, 1) := do_2a DJ5_appendNull_278bc_15
theorem dJ5_appendNull_278bc_16 : decode cJ5_appendNull_278bc 16 = .ok (.getfield 15, 3) := do_b4 DJ5_appendNull_278bc_16
theorem dJ5_appendNull_278bc_19 : decode cJ5_appendNull_278bc 19 = .ok (.astore_n 2, 1) := do_4d DJ5_appendNull_278bc_19
theorem dJ5_appendNull_278bc_20 : decode cJ5_appendNull_278bc 20 = .ok (.aload_n 0, 1) := do_2a DJ5_appendNull_278bc_20
theorem dJ5_appendNull_278bc_21 : decode cJ5_appendNull_278bc 21 = .ok (.invokevirtual 83, 3) := do_b6 DJ5_appendNull_278bc_21
theorem dJ5_appendNull_278bc_24 : decode cJ5_appendNull_278bc 24 = .ok (.ifCond .eq 38, 3) := do_99 DJ5_appendNull_278bc_24 (by decide +kernel)
theorem dJ5_appendNull_278bc_27 : decode cJ5_appendNull_278bc 27 = .ok (.aload_n 2, 1) := do_2c DJ5_appendNull_278bc_27
theorem dJ5_appendNull_278bc_28 : decode cJ5_appendNull_278bc 28 = .ok (.iload_n 1, 1) := do_1b DJ5_appendNull_278bc_28
theorem dJ5_appendNull_278bc_29 : decode cJ5_appendNull_278bc 29 = .ok (.iinc 1 1, 3) := do_84 DJ5_appendNull_278bc_29
theorem dJ5_appendNull_278bc_32 : decode cJ5_appendNull_278bc 32 = .ok (.bipush 110, 2) := do_10 DJ5_appendNull_278bc_32 (by decide +kernel)
theorem dJ5_appendNull_278bc_34 : decode cJ5_appendNull_278bc 34 = .ok (.bastore, 1) := do_54 DJ5_appendNull_278bc_34
theorem dJ5_appendNull_278bc_35 : decode cJ5_appendNull_278bc 35 = .ok (.aload_n 2, 1) := do_2c DJ5_appendNull_278bc_35
theorem dJ5_appendNull_278bc_36 : decode cJ5_appendNull_278bc 36 = .ok (.iload_n 1, 1) := do_1b DJ5_appendNull_278bc_36
theorem dJ5_appendNull_278bc_37 : decode cJ5_appendNull_278bc 37 = .ok (.iinc 1 1, 3) := do_84 DJ5_appendNull_278bc_37
theorem dJ5_appendNull_278bc_40 : decode cJ5_appendNull_278bc 40 = .ok (.bipush 117, 2) := do_10 DJ5_appendNull_278bc_40 (by decide +kernel)
theorem dJ5_appendNull_278bc_42 : decode cJ5_appendNull_278bc 42 = .ok (.bastore, 1) := do_54 DJ5_appendNull_278bc_42
theorem dJ5_appendNull_278bc_43 : decode cJ5_appendNull_278bc 43 = .ok (.aload_n 2, 1) := do_2c DJ5_appendNull_278bc_43
theorem dJ5_appendNull_278bc_44 : decode cJ5_appendNull_278bc 44 = .ok (.iload_n 1, 1) := do_1b DJ5_appendNull_278bc_44
theorem dJ5_appendNull_278bc_45 : decode cJ5_appendNull_278bc 45 = .ok (.iinc 1 1, 3) := do_84 DJ5_appendNull_278bc_45
theorem dJ5_appendNull_278bc_48 : decode cJ5_appendNull_278bc 48 = .ok (.bipush 108, 2) := do_10 DJ5_appendNull_278bc_48 (by decide +kernel)
theorem dJ5_appendNull_278bc_50 : decode cJ5_appendNull_278bc 50 = .ok (.bastore, 1) := do_54 DJ5_appendNull_278bc_50
theorem dJ5_appendNull_278bc_51 : decode cJ5_appendNull_278bc 51 = .ok (.aload_n 2, 1) := do_2c DJ5_appendNull_278bc_51
theorem dJ5_appendNull_278bc_52 : decode cJ5_appendNull_278bc 52 = .ok (.iload_n 1, 1) := do_1b DJ5_appendNull_278bc_52
theorem dJ5_appendNull_278bc_53 : decode cJ5_appendNull_278bc 53 = .ok (.iinc 1 1, 3) := do_84 DJ5_appendNull_278bc_53
theorem dJ5_appendNull_278bc_56 : decode cJ5_appendNull_278bc 56 = .ok (.bipush 108, 2) := do_10 DJ5_appendNull_278bc_56 (by decide +kernel)
theorem dJ5_appendNull_278bc_58 : decode cJ5_appendNull_278bc 58 = .ok (.bastore, 1) := do_54 DJ5_appendNull_278bc_58
theorem dJ5_appendNull_278bc_59 : decode cJ5_appendNull_278bc 59 = .ok (.goto 17, 3) := do_a7 DJ5_appendNull_278bc_59 (by decide +kernel)
theorem dJ5_appendNull_278bc_62 : decode cJ5_appendNull_278bc 62 = .ok (.aload_n 2, 1) := do_2c DJ5_appendNull_278bc_62
theorem dJ5_appendNull_278bc_63 : decode cJ5_appendNull_278bc 63 = .ok (.iload_n 1, 1) := do_1b DJ5_appendNull_278bc_63
theorem dJ5_appendNull_278bc_64 : decode cJ5_appendNull_278bc 64 = .ok (.bipush 110, 2) := do_10 DJ5_appendNull_278bc_64 (by decide +kernel)
theorem dJ5_appendNull_278bc_66 : decode cJ5_appendNull_278bc 66 = .ok (.bipush 117, 2) := do_10 DJ5_appendNull_278bc_66 (by decide +kernel)
theorem dJ5_appendNull_278bc_68 : decode cJ5_appendNull_278bc 68 = .ok (.bipush 108, 2) := do_10 DJ5_appendNull_278bc_68 (by decide +kernel)
theorem dJ5_appendNull_278bc_70 : decode cJ5_appendNull_278bc 70 = .ok (.bipush 108, 2) := do_10 DJ5_appendNull_278bc_70 (by decide +kernel)
theorem dJ5_appendNull_278bc_72 : decode cJ5_appendNull_278bc 72 = .ok (.invokestatic 226, 3) := do_b8 DJ5_appendNull_278bc_72
theorem dJ5_appendNull_278bc_75 : decode cJ5_appendNull_278bc 75 = .ok (.istore_n 1, 1) := do_3c DJ5_appendNull_278bc_75
theorem dJ5_appendNull_278bc_76 : decode cJ5_appendNull_278bc 76 = .ok (.aload_n 0, 1) := do_2a DJ5_appendNull_278bc_76
theorem dJ5_appendNull_278bc_77 : decode cJ5_appendNull_278bc 77 = .ok (.iload_n 1, 1) := do_1b DJ5_appendNull_278bc_77
theorem dJ5_appendNull_278bc_78 : decode cJ5_appendNull_278bc 78 = .ok (.putfield 79, 3) := do_b5 DJ5_appendNull_278bc_78
theorem dJ5_appendNull_278bc_81 : decode cJ5_appendNull_278bc 81 = .ok (.aload_n 0, 1) := do_2a DJ5_appendNull_278bc_81
theorem dJ5_appendNull_278bc_82 : decode cJ5_appendNull_278bc 82 = .ok (.areturn, 1) := do_b0 DJ5_appendNull_278bc_82
def TJ5_append_3fe6f_77 : List UInt8 := []
def TJ5_append_3fe6f_76 : List UInt8 := 176 :: TJ5_append_3fe6f_77
def TJ5_append_3fe6f_75 : List UInt8 := 42 :: TJ5_append_3fe6f_76
def TJ5_append_3fe6f_72 : List UInt8 := 184 :: 0 :: 197 :: TJ5_append_3fe6f_75
def TJ5_append_3fe6f_71 : List UInt8 := 27 :: TJ5_append_3fe6f_72
def TJ5_append_3fe6f_68 : List UInt8 := 181 :: 0 :: 79 :: TJ5_append_3fe6f_71
def TJ5_append_3fe6f_67 : List UInt8 := 96 :: TJ5_append_3fe6f_68
def TJ5_append_3fe6f_66 : List UInt8 := 4 :: TJ5_append_3fe6f_67
def TJ5_append_3fe6f_65 : List UInt8 := 90 :: TJ5_append_3fe6f_66
def TJ5_append_3fe6f_62 : List UInt8 := 180 :: 0 :: 79 :: TJ5_append_3fe6f_65
def TJ5_append_3fe6f_61 : List UInt8 := 89 :: TJ5_append_3fe6f_62
def TJ5_append_3fe6f_60 : List UInt8 := 42 :: TJ5_append_3fe6f_61
def TJ5_append_3fe6f_57 : List UInt8 := 180 :: 0 :: 15 :: TJ5_append_3fe6f_60
def TJ5_append_3fe6f_56 : List UInt8 := 42 :: TJ5_append_3fe6f_57
def TJ5_append_3fe6f_53 : List UInt8 := 182 :: 0 :: 195 :: TJ5_append_3fe6f_56
def TJ5_append_3fe6f_52 : List UInt8 := 42 :: TJ5_append_3fe6f_53
def TJ5_append_3fe6f_49 : List UInt8 := 153 :: 0 :: 7 :: TJ5_append_3fe6f_52
def TJ5_append_3fe6f_46 : List UInt8 := 182 :: 0 :: 83 :: TJ5_append_3fe6f_49
def TJ5_append_3fe6f_45 : List UInt8 := 42 :: TJ5_append_3fe6f_46
def TJ5_append_3fe6f_42 : List UInt8 := 167 :: 0 :: 33 :: TJ5_append_3fe6f_45
def TJ5_append_3fe6f_41 : List UInt8 := 84 :: TJ5_append_3fe6f_42
def TJ5_append_3fe6f_40 : List UInt8 := 145 :: TJ5_append_3fe6f_41
def TJ5_append_3fe6f_39 : List UInt8 := 27 :: TJ5_append_3fe6f_40
def TJ5_append_3fe6f_36 : List UInt8 := 181 :: 0 :: 79 :: TJ5_append_3fe6f_39
def TJ5_append_3fe6f_35 : List UInt8 := 96 :: TJ5_append_3fe6f_36
def TJ5_append_3fe6f_34 : List UInt8 := 4 :: TJ5_append_3fe6f_35
def TJ5_append_3fe6f_33 : List UInt8 := 90 :: TJ5_append_3fe6f_34
def TJ5_append_3fe6f_30 : List UInt8 := 180 :: 0 :: 79 :: TJ5_append_3fe6f_33
def TJ5_append_3fe6f_29 : List UInt8 := 89 :: TJ5_append_3fe6f_30
def TJ5_append_3fe6f_28 : List UInt8 := 42 :: TJ5_append_3fe6f_29
def TJ5_append_3fe6f_25 : List UInt8 := 180 :: 0 :: 15 :: TJ5_append_3fe6f_28
def TJ5_append_3fe6f_24 : List UInt8 := 42 :: TJ5_append_3fe6f_25
def TJ5_append_3fe6f_21 : List UInt8 := 153 :: 0 :: 24 :: TJ5_append_3fe6f_24
def TJ5_append_3fe6f_18 : List UInt8 := 184 :: 0 :: 191 :: TJ5_append_3fe6f_21
def TJ5_append_3fe6f_17 : List UInt8 := 27 :: TJ5_append_3fe6f_18
def TJ5_append_3fe6f_14 : List UInt8 := 153 :: 0 :: 31 :: TJ5_append_3fe6f_17
def TJ5_append_3fe6f_11 : List UInt8 := 182 :: 0 :: 83 :: TJ5_append_3fe6f_14
def TJ5_append_3fe6f_10 : List UInt8 := 42 :: TJ5_append_3fe6f_11
def TJ5_append_3fe6f_7 : List UInt8 := 182 :: 0 :: 100 :: TJ5_append_3fe6f_10
def TJ5_append_3fe6f_6 : List UInt8 := 96 :: TJ5_append_3fe6f_7
def TJ5_append_3fe6f_5 : List UInt8 := 4 :: TJ5_append_3fe6f_6
def TJ5_append_3fe6f_2 : List UInt8 := 180 :: 0 :: 79 :: TJ5_append_3fe6f_5
def TJ5_append_3fe6f_1 : List UInt8 := 42 :: TJ5_append_3fe6f_2
def TJ5_append_3fe6f_0 : List UInt8 := 42 :: TJ5_append_3fe6f_1
theorem DJ5_append_3fe6f_0 : cJ5_append_3fe6f.data.toList.drop 0 = TJ5_append_3fe6f_0 := by decide +kernel
theorem DJ5_append_3fe6f_1 : cJ5_append_3fe6f.data.toList.drop 1 = TJ5_append_3fe6f_1 := dr1 DJ5_append_3fe6f_0
theorem DJ5_append_3fe6f_2 : cJ5_append_3fe6f.data.toList.drop 2 = TJ5_append_3fe6f_2 := dr1 DJ5_append_3fe6f_1
theorem DJ5_append_3fe6f_5 : cJ5_append_3fe6f.data.toList.drop 5 = TJ5_append_3fe6f_5 := dr3 DJ5_append_3fe6f_2
theorem DJ5_append_3fe6f_6 : cJ5_append_3fe6f.data.toList.drop 6 = TJ5_append_3fe6f_6 := dr1 DJ5_append_3fe6f_5
theorem DJ5_append_3fe6f_7 : cJ5_append_3fe6f.data.toList.drop 7 = TJ5_append_3fe6f_7 := dr1 DJ5_append_3fe6f_6
theorem DJ5_append_3fe6f_10 : cJ5_append_3fe6f.data.toList.drop 10 = TJ5_append_3fe6f_10 := dr3 DJ5_append_3fe6f_7
theorem DJ5_append_3fe6f_11 : cJ5_append_3fe6f.data.toList.drop 11 = TJ5_append_3fe6f_11 := dr1 DJ5_append_3fe6f_10
theorem DJ5_append_3fe6f_14 : cJ5_append_3fe6f.data.toList.drop 14 = TJ5_append_3fe6f_14 := dr3 DJ5_append_3fe6f_11
theorem DJ5_append_3fe6f_17 : cJ5_append_3fe6f.data.toList.drop 17 = TJ5_append_3fe6f_17 := dr3 DJ5_append_3fe6f_14
theorem DJ5_append_3fe6f_18 : cJ5_append_3fe6f.data.toList.drop 18 = TJ5_append_3fe6f_18 := dr1 DJ5_append_3fe6f_17
theorem DJ5_append_3fe6f_21 : cJ5_append_3fe6f.data.toList.drop 21 = TJ5_append_3fe6f_21 := dr3 DJ5_append_3fe6f_18
theorem DJ5_append_3fe6f_24 : cJ5_append_3fe6f.data.toList.drop 24 = TJ5_append_3fe6f_24 := dr3 DJ5_append_3fe6f_21
theorem DJ5_append_3fe6f_25 : cJ5_append_3fe6f.data.toList.drop 25 = TJ5_append_3fe6f_25 := dr1 DJ5_append_3fe6f_24
theorem DJ5_append_3fe6f_28 : cJ5_append_3fe6f.data.toList.drop 28 = TJ5_append_3fe6f_28 := dr3 DJ5_append_3fe6f_25
theorem DJ5_append_3fe6f_29 : cJ5_append_3fe6f.data.toList.drop 29 = TJ5_append_3fe6f_29 := dr1 DJ5_append_3fe6f_28
theorem DJ5_append_3fe6f_30 : cJ5_append_3fe6f.data.toList.drop 30 = TJ5_append_3fe6f_30 := dr1 DJ5_append_3fe6f_29
theorem DJ5_append_3fe6f_33 : cJ5_append_3fe6f.data.toList.drop 33 = TJ5_append_3fe6f_33 := dr3 DJ5_append_3fe6f_30
theorem DJ5_append_3fe6f_34 : cJ5_append_3fe6f.data.toList.drop 34 = TJ5_append_3fe6f_34 := dr1 DJ5_append_3fe6f_33
theorem DJ5_append_3fe6f_35 : cJ5_append_3fe6f.data.toList.drop 35 = TJ5_append_3fe6f_35 := dr1 DJ5_append_3fe6f_34
theorem DJ5_append_3fe6f_36 : cJ5_append_3fe6f.data.toList.drop 36 = TJ5_append_3fe6f_36 := dr1 DJ5_append_3fe6f_35
theorem DJ5_append_3fe6f_39 : cJ5_append_3fe6f.data.toList.drop 39 = TJ5_append_3fe6f_39 := dr3 DJ5_append_3fe6f_36
theorem DJ5_append_3fe6f_40 : cJ5_append_3fe6f.data.toList.drop 40 = TJ5_append_3fe6f_40 := dr1 DJ5_append_3fe6f_39
theorem DJ5_append_3fe6f_41 : cJ5_append_3fe6f.data.toList.drop 41 = TJ5_append_3fe6f_41 := dr1 DJ5_append_3fe6f_40
theorem DJ5_append_3fe6f_42 : cJ5_append_3fe6f.data.toList.drop 42 = TJ5_append_3fe6f_42 := dr1 DJ5_append_3fe6f_41
theorem DJ5_append_3fe6f_45 : cJ5_append_3fe6f.data.toList.drop 45 = TJ5_append_3fe6f_45 := dr3 DJ5_append_3fe6f_42
theorem DJ5_append_3fe6f_46 : cJ5_append_3fe6f.data.toList.drop 46 = TJ5_append_3fe6f_46 := dr1 DJ5_append_3fe6f_45
theorem DJ5_append_3fe6f_49 : cJ5_append_3fe6f.data.toList.drop 49 = TJ5_append_3fe6f_49 := dr3 DJ5_append_3fe6f_46
theorem DJ5_append_3fe6f_52 : cJ5_append_3fe6f.data.toList.drop 52 = TJ5_append_3fe6f_52 := dr3 DJ5_append_3fe6f_49
theorem DJ5_append_3fe6f_53 : cJ5_append_3fe6f.data.toList.drop 53 = TJ5_append_3fe6f_53 := dr1 DJ5_append_3fe6f_52
theorem DJ5_append_3fe6f_56 : cJ5_append_3fe6f.data.toList.drop 56 = TJ5_append_3fe6f_56 := dr3 DJ5_append_3fe6f_53
theorem DJ5_append_3fe6f_57 : cJ5_append_3fe6f.data.toList.drop 57 = TJ5_append_3fe6f_57 := dr1 DJ5_append_3fe6f_56
theorem DJ5_append_3fe6f_60 : cJ5_append_3fe6f.data.toList.drop 60 = TJ5_append_3fe6f_60 := dr3 DJ5_append_3fe6f_57
theorem DJ5_append_3fe6f_61 : cJ5_append_3fe6f.data.toList.drop 61 = TJ5_append_3fe6f_61 := dr1 DJ5_append_3fe6f_60
theorem DJ5_append_3fe6f_62 : cJ5_append_3fe6f.data.toList.drop 62 = TJ5_append_3fe6f_62 := dr1 DJ5_append_3fe6f_61
theorem DJ5_append_3fe6f_65 : cJ5_append_3fe6f.data.toList.drop 65 = TJ5_append_3fe6f_65 := dr3 DJ5_append_3fe6f_62
theorem DJ5_append_3fe6f_66 : cJ5_append_3fe6f.data.toList.drop 66 = TJ5_append_3fe6f_66 := dr1 DJ5_append_3fe6f_65
theorem DJ5_append_3fe6f_67 : cJ5_append_3fe6f.data.toList.drop 67 = TJ5_append_3fe6f_67 := dr1 DJ5_append_3fe6f_66
theorem DJ5_append_3fe6f_68 : cJ5_append_3fe6f.data.toList.drop 68 = TJ5_append_3fe6f_68 := dr1 DJ5_append_3fe6f_67
theorem DJ5_append_3fe6f_71 : cJ5_append_3fe6f.data.toList.drop 71 = TJ5_append_3fe6f_71 := dr3 DJ5_append_3fe6f_68
theorem DJ5_append_3fe6f_72 : cJ5_append_3fe6f.data.toList.drop 72 = TJ5_append_3fe6f_72 := dr1 DJ5_append_3fe6f_71
theorem DJ5_append_3fe6f_75 : cJ5_append_3fe6f.data.toList.drop 75 = TJ5_append_3fe6f_75 := dr3 DJ5_append_3fe6f_72
theorem DJ5_append_3fe6f_76 : cJ5_append_3fe6f.data.toList.drop 76 = TJ5_append_3fe6f_76 := dr1 DJ5_append_3fe6f_75
theorem dJ5_append_3fe6f_0 : decode cJ5_append_3fe6f 0 = .ok (.aload_n 0, 1) := do_2a DJ5_append_3fe6f_0
theorem dJ5_append_3fe6f_1 : decode cJ5_append_3fe6f 1 = .ok (.aload_n 0, 1) := do_2a DJ5_append_3fe6f_1
theorem dJ5_append_3fe6f_2 : decode cJ5_append_3fe6f 2 = .ok (.getfield 79, 3) := do_b4 DJ5_append_3fe6f_2
theorem dJ5_append_3fe6f_5 : decode cJ5_append_3fe6f 5 = .ok (.iconst 1, 1) := do_04 DJ5_append_3fe6f_5
theorem dJ5_append_3fe6f_6 : decode cJ5_append_3fe6f 6 = .ok (.iadd, 1) := do_60 DJ5_append_3fe6f_6
theorem dJ5_append_3fe6f_7 : decode cJ5_append_3fe6f 7 = .ok (.invokevirtual 100, 3) := do_b6 DJ5_append_3fe6f_7
theorem dJ5_append_3fe6f_10 : decode cJ5_append_3fe6f 10 = .ok (.aload_n 0, 1) := do_2a DJ5_append_3fe6f_10
theorem dJ5_append_3fe6f_11 : decode cJ5_append_3fe6f 11 = .ok (.invokevirtual 83, 3) := do_b6 DJ5_append_3fe6f_11
theorem dJ5_append_3fe6f_14 : decode cJ5_append_3fe6f 14 = .ok (.ifCond .eq 31, 3) := do_99 DJ5_append_3fe6f_14 (by decide +kernel)
theorem dJ5_append_3fe6f_17 : decode cJ5_append_3fe6f 17 = .ok (.iload_n 1, 1) := do_1b DJ5_append_3fe6f_17
theorem dJ5_append_3fe6f_18 : decode cJ5_append_3fe6f 18 = .ok (.invokestatic 191, 3) := do_b8 DJ5_append_3fe6f_18
theorem dJ5_append_3fe6f_21 : decode cJ5_append_3fe6f 21 = .ok (.ifCond .eq 24, 3) := do_99 DJ5_append_3fe6f_21 (by decide +kernel)
theorem dJ5_append_3fe6f_24 : decode cJ5_append_3fe6f 24 = .ok (.aload_n 0, 1) := do_2a DJ5_append_3fe6f_24
theorem dJ5_append_3fe6f_25 : decode cJ5_append_3fe6f 25 = .ok (.getfield 15, 3) := do_b4 DJ5_append_3fe6f_25
theorem dJ5_append_3fe6f_28 : decode cJ5_append_3fe6f 28 = .ok (.aload_n 0, 1) := do_2a DJ5_append_3fe6f_28
theorem dJ5_append_3fe6f_29 : decode cJ5_append_3fe6f 29 = .ok (.dup, 1) := do_59 DJ5_append_3fe6f_29
theorem dJ5_append_3fe6f_30 : decode cJ5_append_3fe6f 30 = .ok (.getfield 79, 3) := do_b4 DJ5_append_3fe6f_30
theorem dJ5_append_3fe6f_33 : decode cJ5_append_3fe6f 33 = .ok (.dup_x1, 1) := do_5a DJ5_append_3fe6f_33
theorem dJ5_append_3fe6f_34 : decode cJ5_append_3fe6f 34 = .ok (.iconst 1, 1) := do_04 DJ5_append_3fe6f_34
theorem dJ5_append_3fe6f_35 : decode cJ5_append_3fe6f 35 = .ok (.iadd, 1) := do_60 DJ5_append_3fe6f_35
theorem dJ5_append_3fe6f_36 : decode cJ5_append_3fe6f 36 = .ok (.putfield 79, 3) := do_b5 DJ5_append_3fe6f_36
theorem dJ5_append_3fe6f_39 : decode cJ5_append_3fe6f 39 = .ok (.iload_n 1, 1) := do_1b DJ5_append_3fe6f_39
theorem dJ5_append_3fe6f_40 : decode cJ5_append_3fe6f 40 = .ok (.i2b, 1) := do_91 DJ5_append_3fe6f_40
theorem dJ5_append_3fe6f_41 : decode cJ5_append_3fe6f 41 = .ok (.bastore, 1) := do_54 DJ5_append_3fe6f_41
theorem dJ5_append_3fe6f_42 : decode cJ5_append_3fe6f 42 = .ok (.goto 33, 3) := do_a7 DJ5_append_3fe6f_42 (by decide +kernel)
theorem dJ5_append_3fe6f_45 : decode cJ5_append_3fe6f 45 = .ok (.aload_n 0, 1) := do_2a DJ5_append_3fe6f_45
theorem dJ5_append_3fe6f_46 : decode cJ5_append_3fe6f 46 = .ok (.invokevirtual 83, 3) := do_b6 DJ5_append_3fe6f_46
theorem dJ5_append_3fe6f_49 : decode cJ5_append_3fe6f 49 = .ok (.ifCond .eq 7, 3) := do_99 DJ5_append_3fe6f_49 (by decide +kernel)
theorem dJ5_append_3fe6f_52 : decode cJ5_append_3fe6f 52 = .ok (.aload_n 0, 1) := do_2a DJ5_append_3fe6f_52
theorem dJ5_append_3fe6f_53 : decode cJ5_append_3fe6f 53 = .ok (.invokevirtual 195, 3) := do_b6 DJ5_append_3fe6f_53
theorem dJ5_append_3fe6f_56 : decode cJ5_append_3fe6f 56 = .ok (.aload_n 0, 1) := do_2a DJ5_append_3fe6f_56
theorem dJ5_append_3fe6f_57 : decode cJ5_append_3fe6f 57 = .ok (.getfield 15, 3) := do_b4 DJ5_append_3fe6f_57
theorem dJ5_append_3fe6f_60 : decode cJ5_append_3fe6f 60 = .ok (.aload_n 0, 1) := do_2a DJ5_append_3fe6f_60
theorem dJ5_append_3fe6f_61 : decode cJ5_append_3fe6f 61 = .ok (.dup, 1) := do_59 DJ5_append_3fe6f_61
theorem dJ5_append_3fe6f_62 : decode cJ5_append_3fe6f 62 = .ok (.getfield 79, 3) := do_b4 DJ5_append_3fe6f_62
theorem dJ5_append_3fe6f_65 : decode cJ5_append_3fe6f 65 = .ok (.dup_x1, 1) := do_5a DJ5_append_3fe6f_65
theorem dJ5_append_3fe6f_66 : decode cJ5_append_3fe6f 66 = .ok (.iconst 1, 1) := do_04 DJ5_append_3fe6f_66
theorem dJ5_append_3fe6f_67 : decode cJ5_append_3fe6f 67 = .ok (.iadd, 1) := do_60 DJ5_append_3fe6f_67
theorem dJ5_append_3fe6f_68 : decode cJ5_append_3fe6f 68 = .ok (.putfield 79, 3) := do_b5 DJ5_append_3fe6f_68
theorem dJ5_append_3fe6f_71 : decode cJ5_append_3fe6f 71 = .ok (.iload_n 1, 1) := do_1b DJ5_append_3fe6f_71
theorem dJ5_append_3fe6f_72 : decode cJ5_append_3fe6f 72 = .ok (.invokestatic 197, 3) := do_b8 DJ5_append_3fe6f_72
theorem dJ5_append_3fe6f_75 : decode cJ5_append_3fe6f 75 = .ok (.aload_n 0, 1) := do_2a DJ5_append_3fe6f_75
theorem dJ5_append_3fe6f_76 : decode cJ5_append_3fe6f 76 = .ok (.areturn, 1) := do_b0 DJ5_append_3fe6f_76
def TJ5_append_c97b9_55 : List UInt8 := []
def TJ5_append_c97b9_54 : List UInt8 := 176 :: TJ5_append_c97b9_55
def TJ5_append_c97b9_53 : List UInt8 := 42 :: TJ5_append_c97b9_54
def TJ5_append_c97b9_50 : List UInt8 := 181 :: 0 :: 79 :: TJ5_append_c97b9_53
def TJ5_append_c97b9_49 : List UInt8 := 29 :: TJ5_append_c97b9_50
def TJ5_append_c97b9_48 : List UInt8 := 42 :: TJ5_append_c97b9_49
def TJ5_append_c97b9_47 : List UInt8 := 87 :: TJ5_append_c97b9_48
def TJ5_append_c97b9_44 : List UInt8 := 184 :: 0 :: 251 :: TJ5_append_c97b9_47
def TJ5_append_c97b9_41 : List UInt8 := 180 :: 0 :: 15 :: TJ5_append_c97b9_44
def TJ5_append_c97b9_40 : List UInt8 := 42 :: TJ5_append_c97b9_41
def TJ5_append_c97b9_39 : List UInt8 := 29 :: TJ5_append_c97b9_40
def TJ5_append_c97b9_38 : List UInt8 := 28 :: TJ5_append_c97b9_39
def TJ5_append_c97b9_37 : List UInt8 := 27 :: TJ5_append_c97b9_38
def TJ5_append_c97b9_34 : List UInt8 := 167 :: 0 :: 14 :: TJ5_append_c97b9_37
def TJ5_append_c97b9_33 : List UInt8 := 87 :: TJ5_append_c97b9_34
def TJ5_append_c97b9_30 : List UInt8 := 184 :: 0 :: 248 :: TJ5_append_c97b9_33
def TJ5_append_c97b9_27 : List UInt8 := 180 :: 0 :: 15 :: TJ5_append_c97b9_30
def TJ5_append_c97b9_26 : List UInt8 := 42 :: TJ5_append_c97b9_27
def TJ5_append_c97b9_25 : List UInt8 := 29 :: TJ5_append_c97b9_26
def TJ5_append_c97b9_24 : List UInt8 := 27 :: TJ5_append_c97b9_25
def TJ5_append_c97b9_21 : List UInt8 := 153 :: 0 :: 16 :: TJ5_append_c97b9_24
def TJ5_append_c97b9_18 : List UInt8 := 182 :: 0 :: 83 :: TJ5_append_c97b9_21
def TJ5_append_c97b9_17 : List UInt8 := 42 :: TJ5_append_c97b9_18
def TJ5_append_c97b9_14 : List UInt8 := 182 :: 0 :: 100 :: TJ5_append_c97b9_17
def TJ5_append_c97b9_13 : List UInt8 := 29 :: TJ5_append_c97b9_14
def TJ5_append_c97b9_12 : List UInt8 := 42 :: TJ5_append_c97b9_13
def TJ5_append_c97b9_11 : List UInt8 := 62 :: TJ5_append_c97b9_12
def TJ5_append_c97b9_10 : List UInt8 := 96 :: TJ5_append_c97b9_11
def TJ5_append_c97b9_7 : List UInt8 := 184 :: 0 :: 245 :: TJ5_append_c97b9_10
def TJ5_append_c97b9_6 : List UInt8 := 27 :: TJ5_append_c97b9_7
def TJ5_append_c97b9_5 : List UInt8 := 28 :: TJ5_append_c97b9_6
def TJ5_append_c97b9_4 : List UInt8 := 61 :: TJ5_append_c97b9_5
def TJ5_append_c97b9_1 : List UInt8 := 180 :: 0 :: 79 :: TJ5_append_c97b9_4
def TJ5_append_c97b9_0 : List UInt8 := 42 :: TJ5_append_c97b9_1
theorem DJ5_append_c97b9_0 : cJ5_append_c97b9.data.toList.drop 0 = TJ5_append_c97b9_0 := by decide +kernel
theorem DJ5_append_c97b9_1 : cJ5_append_c97b9.data.toList.drop 1 = TJ5_append_c97b9_1 := dr1 DJ5_append_c97b9_0
theorem DJ5_append_c97b9_4 : cJ5_append_c97b9.data.toList.drop 4 = TJ5_append_c97b9_4 := dr3 DJ5_append_c97b9_1
theorem DJ5_append_c97b9_5 : cJ5_append_c97b9.data.toList.drop 5 = TJ5_append_c97b9_5 := dr1 DJ5_append_c97b9_4
theorem DJ5_append_c97b9_6 : cJ5_append_c97b9.data.toList.drop 6 = TJ5_append_c97b9_6 := dr1 DJ5_append_c97b9_5
theorem DJ5_append_c97b9_7 : cJ5_append_c97b9.data.toList.drop 7 = TJ5_append_c97b9_7 := dr1 DJ5_append_c97b9_6
theorem DJ5_append_c97b9_10 : cJ5_append_c97b9.data.toList.drop 10 = TJ5_append_c97b9_10 := dr3 DJ5_append_c97b9_7
theorem DJ5_append_c97b9_11 : cJ5_append_c97b9.data.toList.drop 11 = TJ5_append_c97b9_11 := dr1 DJ5_append_c97b9_10
theorem DJ5_append_c97b9_12 : cJ5_append_c97b9.data.toList.drop 12 = TJ5_append_c97b9_12 := dr1 DJ5_append_c97b9_11
theorem DJ5_append_c97b9_13 : cJ5_append_c97b9.data.toList.drop 13 = TJ5_append_c97b9_13 := dr1 DJ5_append_c97b9_12
theorem DJ5_append_c97b9_14 : cJ5_append_c97b9.data.toList.drop 14 = TJ5_append_c97b9_14 := dr1 DJ5_append_c97b9_13
theorem DJ5_append_c97b9_17 : cJ5_append_c97b9.data.toList.drop 17 = TJ5_append_c97b9_17 := dr3 DJ5_append_c97b9_14
theorem DJ5_append_c97b9_18 : cJ5_append_c97b9.data.toList.drop 18 = TJ5_append_c97b9_18 := dr1 DJ5_append_c97b9_17
theorem DJ5_append_c97b9_21 : cJ5_append_c97b9.data.toList.drop 21 = TJ5_append_c97b9_21 := dr3 DJ5_append_c97b9_18
theorem DJ5_append_c97b9_24 : cJ5_append_c97b9.data.toList.drop 24 = TJ5_append_c97b9_24 := dr3 DJ5_append_c97b9_21
theorem DJ5_append_c97b9_25 : cJ5_append_c97b9.data.toList.drop 25 = TJ5_append_c97b9_25 := dr1 DJ5_append_c97b9_24
theorem DJ5_append_c97b9_26 : cJ5_append_c97b9.data.toList.drop 26 = TJ5_append_c97b9_26 := dr1 DJ5_append_c97b9_25
theorem DJ5_append_c97b9_27 : cJ5_append_c97b9.data.toList.drop 27 = TJ5_append_c97b9_27 := dr1 DJ5_append_c97b9_26
theorem DJ5_append_c97b9_30 : cJ5_append_c97b9.data.toList.drop 30 = TJ5_append_c97b9_30 := dr3 DJ5_append_c97b9_27
theorem DJ5_append_c97b9_33 : cJ5_append_c97b9.data.toList.drop 33 = TJ5_append_c97b9_33 := dr3 DJ5_append_c97b9_30
theorem DJ5_append_c97b9_34 : cJ5_append_c97b9.data.toList.drop 34 = TJ5_append_c97b9_34 := dr1 DJ5_append_c97b9_33
theorem DJ5_append_c97b9_37 : cJ5_append_c97b9.data.toList.drop 37 = TJ5_append_c97b9_37 := dr3 DJ5_append_c97b9_34
theorem DJ5_append_c97b9_38 : cJ5_append_c97b9.data.toList.drop 38 = TJ5_append_c97b9_38 := dr1 DJ5_append_c97b9_37
theorem DJ5_append_c97b9_39 : cJ5_append_c97b9.data.toList.drop 39 = TJ5_append_c97b9_39 := dr1 DJ5_append_c97b9_38
theorem DJ5_append_c97b9_40 : cJ5_append_c97b9.data.toList.drop 40 = TJ5_append_c97b9_40 := dr1 DJ5_append_c97b9_39
theorem DJ5_append_c97b9_41 : cJ5_append_c97b9.data.toList.drop 41 = TJ5_append_c97b9_41 := dr1 DJ5_append_c97b9_40
theorem DJ5_append_c97b9_44 : cJ5_append_c97b9.data.toList.drop 44 = TJ5_append_c97b9_44 := dr3 DJ5_append_c97b9_41
theorem DJ5_append_c97b9_47 : cJ5_append_c97b9.data.toList.drop 47 = TJ5_append_c97b9_47 := dr3 DJ5_append_c97b9_44
theorem DJ5_append_c97b9_48 : cJ5_append_c97b9.data.toList.drop 48 = TJ5_append_c97b9_48 := dr1 DJ5_append_c97b9_47
theorem DJ5_append_c97b9_49 : cJ5_append_c97b9.data.toList.drop 49 = TJ5_append_c97b9_49 := dr1 DJ5_append_c97b9_48
theorem DJ5_append_c97b9_50 : cJ5_append_c97b9.data.toList.drop 50 = TJ5_append_c97b9_50 := dr1 DJ5_append_c97b9_49
theorem DJ5_append_c97b9_53 : cJ5_append_c97b9.data.toList.drop 53 = TJ5_append_c97b9_53 := dr3 DJ5_append_c97b9_50
theorem DJ5_append_c97b9_54 : cJ5_append_c97b9.data.toList.drop 54 = TJ5_append_c97b9_54 := dr1 DJ5_append_c97b9_53
theorem dJ5_append_c97b9_0 : decode cJ5_append_c97b9 0 = .ok (.aload_n 0, 1) := do_2a DJ5_append_c97b9_0
theorem dJ5_append_c97b9_1 : decode cJ5_append_c97b9 1 = .ok (.getfield 79, 3) := do_b4 DJ5_append_c97b9_1
theorem dJ5_append_c97b9_4 : decode cJ5_append_c97b9 4 = .ok (.istore_n 2, 1) := do_3d DJ5_append_c97b9_4
theorem dJ5_append_c97b9_5 : decode cJ5_append_c97b9 5 = .ok (.iload_n 2, 1) := do_1c DJ5_append_c97b9_5
theorem dJ5_append_c97b9_6 : decode cJ5_append_c97b9 6 = .ok (.iload_n 1, 1) := do_1b DJ5_append_c97b9_6
theorem dJ5_append_c97b9_7 : decode cJ5_append_c97b9 7 = .ok (.invokestatic 245, 3) := do_b8 DJ5_append_c97b9_7
theorem dJ5_append_c97b9_10 : decode cJ5_append_c97b9 10 = .ok (.iadd, 1) := do_60 DJ5_append_c97b9_10
theorem dJ5_append_c97b9_11 : decode cJ5_append_c97b9 11 = .ok (.istore_n 3, 1) := do_3e DJ5_append_c97b9_11
theorem dJ5_append_c97b9_12 : decode cJ5_append_c97b9 12 = .ok (.aload_n 0, 1) := do_2a DJ5_append_c97b9_12
theorem dJ5_append_c97b9_13 : decode cJ5_append_c97b9 13 = .ok (.iload_n 3, 1) := do_1d DJ5_append_c97b9_13
theorem dJ5_append_c97b9_14 : decode cJ5_append_c97b9 14 = .ok (.invokevirtual 100, 3) := do_b6 DJ5_append_c97b9_14
theorem dJ5_append_c97b9_17 : decode cJ5_append_c97b9 17 = .ok (.aload_n 0, 1) := do_2a DJ5_append_c97b9_17
theorem dJ5_append_c97b9_18 : decode cJ5_append_c97b9 18 = .ok (.invokevirtual 83, 3) := do_b6 DJ5_append_c97b9_18
theorem dJ5_append_c97b9_21 : decode cJ5_append_c97b9 21 = .ok (.ifCond .eq 16, 3) := do_99 DJ5_append_c97b9_21 (by decide +kernel)
theorem dJ5_append_c97b9_24 : decode cJ5_append_c97b9 24 = .ok (.iload_n 1, 1) := do_1b DJ5_append_c97b9_24
theorem dJ5_append_c97b9_25 : decode cJ5_append_c97b9 25 = .ok (.iload_n 3, 1) := do_1d DJ5_append_c97b9_25
theorem dJ5_append_c97b9_26 : decode cJ5_append_c97b9 26 = .ok (.aload_n 0, 1) := do_2a DJ5_append_c97b9_26
theorem dJ5_append_c97b9_27 : decode cJ5_append_c97b9 27 = .ok (.getfield 15, 3) := do_b4 DJ5_append_c97b9_27
theorem dJ5_append_c97b9_30 : decode cJ5_append_c97b9 30 = .ok (.invokestatic 248, 3) := do_b8 DJ5_append_c97b9_30
theorem dJ5_append_c97b9_33 : decode cJ5_append_c97b9 33 = .ok (.pop, 1) := do_57 DJ5_append_c97b9_33
theorem dJ5_append_c97b9_34 : decode cJ5_append_c97b9 34 = .ok (.goto 14, 3) := do_a7 DJ5_append_c97b9_34 (by decide +kernel)
theorem dJ5_append_c97b9_37 : decode cJ5_append_c97b9 37 = .ok (.iload_n 1, 1) := do_1b DJ5_append_c97b9_37
theorem dJ5_append_c97b9_38 : decode cJ5_append_c97b9 38 = .ok (.iload_n 2, 1) := do_1c DJ5_append_c97b9_38
theorem dJ5_append_c97b9_39 : decode cJ5_append_c97b9 39 = .ok (.iload_n 3, 1) := do_1d DJ5_append_c97b9_39
theorem dJ5_append_c97b9_40 : decode cJ5_append_c97b9 40 = .ok (.aload_n 0, 1) := do_2a DJ5_append_c97b9_40
theorem dJ5_append_c97b9_41 : decode cJ5_append_c97b9 41 = .ok (.getfield 15, 3) := do_b4 DJ5_append_c97b9_41
theorem dJ5_append_c97b9_44 : decode cJ5_append_c97b9 44 = .ok (.invokestatic 251, 3) := do_b8 DJ5_append_c97b9_44
theorem dJ5_append_c97b9_47 : decode cJ5_append_c97b9 47 = .ok (.pop, 1) := do_57 DJ5_append_c97b9_47
theorem dJ5_append_c97b9_48 : decode cJ5_append_c97b9 48 = .ok (.aload_n 0, 1) := do_2a DJ5_append_c97b9_48
theorem dJ5_append_c97b9_49 : decode cJ5_append_c97b9 49 = .ok (.iload_n 3, 1) := do_1d DJ5_append_c97b9_49
theorem dJ5_append_c97b9_50 : decode cJ5_append_c97b9 50 = .ok (.putfield 79, 3) := do_b5 DJ5_append_c97b9_50
theorem dJ5_append_c97b9_53 : decode cJ5_append_c97b9 53 = .ok (.aload_n 0, 1) := do_2a DJ5_append_c97b9_53
theorem dJ5_append_c97b9_54 : decode cJ5_append_c97b9 54 = .ok (.areturn, 1) := do_b0 DJ5_append_c97b9_54
def TJ5_reverse_278bc_75 : List UInt8 := []
def TJ5_reverse_278bc_74 : List UInt8 := 176 :: TJ5_reverse_278bc_75
def TJ5_reverse_278bc_73 : List UInt8 := 42 :: TJ5_reverse_278bc_74
def TJ5_reverse_278bc_70 : List UInt8 := 184 :: 1 :: 102 :: TJ5_reverse_278bc_73
def TJ5_reverse_278bc_69 : List UInt8 := 28 :: TJ5_reverse_278bc_70
def TJ5_reverse_278bc_68 : List UInt8 := 43 :: TJ5_reverse_278bc_69
def TJ5_reverse_278bc_65 : List UInt8 := 167 :: 0 :: 8 :: TJ5_reverse_278bc_68
def TJ5_reverse_278bc_62 : List UInt8 := 167 :: 255 :: 222 :: TJ5_reverse_278bc_65
def TJ5_reverse_278bc_59 : List UInt8 := 132 :: 4 :: 255 :: TJ5_reverse_278bc_62
def TJ5_reverse_278bc_58 : List UInt8 := 84 :: TJ5_reverse_278bc_59
def TJ5_reverse_278bc_56 : List UInt8 := 21 :: 6 :: TJ5_reverse_278bc_58
def TJ5_reverse_278bc_54 : List UInt8 := 21 :: 5 :: TJ5_reverse_278bc_56
def TJ5_reverse_278bc_53 : List UInt8 := 43 :: TJ5_reverse_278bc_54
def TJ5_reverse_278bc_52 : List UInt8 := 84 :: TJ5_reverse_278bc_53
def TJ5_reverse_278bc_51 : List UInt8 := 51 :: TJ5_reverse_278bc_52
def TJ5_reverse_278bc_49 : List UInt8 := 21 :: 5 :: TJ5_reverse_278bc_51
def TJ5_reverse_278bc_48 : List UInt8 := 43 :: TJ5_reverse_278bc_49
def TJ5_reverse_278bc_46 : List UInt8 := 21 :: 4 :: TJ5_reverse_278bc_48
def TJ5_reverse_278bc_45 : List UInt8 := 43 :: TJ5_reverse_278bc_46
def TJ5_reverse_278bc_43 : List UInt8 := 54 :: 6 :: TJ5_reverse_278bc_45
def TJ5_reverse_278bc_42 : List UInt8 := 51 :: TJ5_reverse_278bc_43
def TJ5_reverse_278bc_40 : List UInt8 := 21 :: 4 :: TJ5_reverse_278bc_42
def TJ5_reverse_278bc_39 : List UInt8 := 43 :: TJ5_reverse_278bc_40
def TJ5_reverse_278bc_37 : List UInt8 := 54 :: 5 :: TJ5_reverse_278bc_39
def TJ5_reverse_278bc_36 : List UInt8 := 100 :: TJ5_reverse_278bc_37
def TJ5_reverse_278bc_34 : List UInt8 := 21 :: 4 :: TJ5_reverse_278bc_36
def TJ5_reverse_278bc_33 : List UInt8 := 29 :: TJ5_reverse_278bc_34
def TJ5_reverse_278bc_30 : List UInt8 := 155 :: 0 :: 35 :: TJ5_reverse_278bc_33
def TJ5_reverse_278bc_28 : List UInt8 := 21 :: 4 :: TJ5_reverse_278bc_30
def TJ5_reverse_278bc_26 : List UInt8 := 54 :: 4 :: TJ5_reverse_278bc_28
def TJ5_reverse_278bc_25 : List UInt8 := 122 :: TJ5_reverse_278bc_26
def TJ5_reverse_278bc_24 : List UInt8 := 4 :: TJ5_reverse_278bc_25
def TJ5_reverse_278bc_23 : List UInt8 := 100 :: TJ5_reverse_278bc_24
def TJ5_reverse_278bc_22 : List UInt8 := 4 :: TJ5_reverse_278bc_23
def TJ5_reverse_278bc_21 : List UInt8 := 29 :: TJ5_reverse_278bc_22
def TJ5_reverse_278bc_18 : List UInt8 := 153 :: 0 :: 50 :: TJ5_reverse_278bc_21
def TJ5_reverse_278bc_15 : List UInt8 := 182 :: 0 :: 83 :: TJ5_reverse_278bc_18
def TJ5_reverse_278bc_14 : List UInt8 := 42 :: TJ5_reverse_278bc_15
def TJ5_reverse_278bc_13 : List UInt8 := 62 :: TJ5_reverse_278bc_14
def TJ5_reverse_278bc_12 : List UInt8 := 100 :: TJ5_reverse_278bc_13
def TJ5_reverse_278bc_11 : List UInt8 := 4 :: TJ5_reverse_278bc_12
def TJ5_reverse_278bc_10 : List UInt8 := 28 :: TJ5_reverse_278bc_11
def TJ5_reverse_278bc_9 : List UInt8 := 61 :: TJ5_reverse_278bc_10
def TJ5_reverse_278bc_6 : List UInt8 := 180 :: 0 :: 79 :: TJ5_reverse_278bc_9
def TJ5_reverse_278bc_5 : List UInt8 := 42 :: TJ5_reverse_278bc_6
def TJ5_reverse_278bc_4 : List UInt8 := 76 :: TJ5_reverse_278bc_5
def TJ5_reverse_278bc_1 : List UInt8 := 180 :: 0 :: 15 :: TJ5_reverse_278bc_4
def TJ5_reverse_278bc_0 : List UInt8 := 42 :: TJ5_reverse_278bc_1
theorem DJ5_reverse_278bc_0 : cJ5_reverse_278bc.data.toList.drop 0 = TJ5_reverse_278bc_0 := by decide +kernel
theorem DJ5_reverse_278bc_1 : cJ5_reverse_278bc.data.toList.drop 1 = TJ5_reverse_278bc_1 := dr1 DJ5_reverse_278bc_0
theorem DJ5_reverse_278bc_4 : cJ5_reverse_278bc.data.toList.drop 4 = TJ5_reverse_278bc_4 := dr3 DJ5_reverse_278bc_1
theorem DJ5_reverse_278bc_5 : cJ5_reverse_278bc.data.toList.drop 5 = TJ5_reverse_278bc_5 := dr1 DJ5_reverse_278bc_4
theorem DJ5_reverse_278bc_6 : cJ5_reverse_278bc.data.toList.drop 6 = TJ5_reverse_278bc_6 := dr1 DJ5_reverse_278bc_5
theorem DJ5_reverse_278bc_9 : cJ5_reverse_278bc.data.toList.drop 9 = TJ5_reverse_278bc_9 := dr3 DJ5_reverse_278bc_6
theorem DJ5_reverse_278bc_10 : cJ5_reverse_278bc.data.toList.drop 10 = TJ5_reverse_278bc_10 := dr1 DJ5_reverse_278bc_9
theorem DJ5_reverse_278bc_11 : cJ5_reverse_278bc.data.toList.drop 11 = TJ5_reverse_278bc_11 := dr1 DJ5_reverse_278bc_10
theorem DJ5_reverse_278bc_12 : cJ5_reverse_278bc.data.toList.drop 12 = TJ5_reverse_278bc_12 := dr1 DJ5_reverse_278bc_11
theorem DJ5_reverse_278bc_13 : cJ5_reverse_278bc.data.toList.drop 13 = TJ5_reverse_278bc_13 := dr1 DJ5_reverse_278bc_12
theorem DJ5_reverse_278bc_14 : cJ5_reverse_278bc.data.toList.drop 14 = TJ5_reverse_278bc_14 := dr1 DJ5_reverse_278bc_13
theorem DJ5_reverse_278bc_15 : cJ5_reverse_278bc.data.toList.drop 15 = TJ5_reverse_278bc_15 := dr1 DJ5_reverse_278bc_14
theorem DJ5_reverse_278bc_18 : cJ5_reverse_278bc.data.toList.drop 18 = TJ5_reverse_278bc_18 := dr3 DJ5_reverse_278bc_15
theorem DJ5_reverse_278bc_21 : cJ5_reverse_278bc.data.toList.drop 21 = TJ5_reverse_278bc_21 := dr3 DJ5_reverse_278bc_18
theorem DJ5_reverse_278bc_22 : cJ5_reverse_278bc.data.toList.drop 22 = TJ5_reverse_278bc_22 := dr1 DJ5_reverse_278bc_21
theorem DJ5_reverse_278bc_23 : cJ5_reverse_278bc.data.toList.drop 23 = TJ5_reverse_278bc_23 := dr1 DJ5_reverse_278bc_22
theorem DJ5_reverse_278bc_24 : cJ5_reverse_278bc.data.toList.drop 24 = TJ5_reverse_278bc_24 := dr1 DJ5_reverse_278bc_23
theorem DJ5_reverse_278bc_25 : cJ5_reverse_278bc.data.toList.drop 25 = TJ5_reverse_278bc_25 := dr1 DJ5_reverse_278bc_24
theorem DJ5_reverse_278bc_26 : cJ5_reverse_278bc.data.toList.drop 26 = TJ5_reverse_278bc_26 := dr1 DJ5_reverse_278bc_25
theorem DJ5_reverse_278bc_28 : cJ5_reverse_278bc.data.toList.drop 28 = TJ5_reverse_278bc_28 := dr2 DJ5_reverse_278bc_26
theorem DJ5_reverse_278bc_30 : cJ5_reverse_278bc.data.toList.drop 30 = TJ5_reverse_278bc_30 := dr2 DJ5_reverse_278bc_28
theorem DJ5_reverse_278bc_33 : cJ5_reverse_278bc.data.toList.drop 33 = TJ5_reverse_278bc_33 := dr3 DJ5_reverse_278bc_30
theorem DJ5_reverse_278bc_34 : cJ5_reverse_278bc.data.toList.drop 34 = TJ5_reverse_278bc_34 := dr1 DJ5_reverse_278bc_33
theorem DJ5_reverse_278bc_36 : cJ5_reverse_278bc.data.toList.drop 36 = TJ5_reverse_278bc_36 := dr2 DJ5_reverse_278bc_34
theorem DJ5_reverse_278bc_37 : cJ5_reverse_278bc.data.toList.drop 37 = TJ5_reverse_278bc_37 := dr1 DJ5_reverse_278bc_36
theorem DJ5_reverse_278bc_39 : cJ5_reverse_278bc.data.toList.drop 39 = TJ5_reverse_278bc_39 := dr2 DJ5_reverse_278bc_37
theorem DJ5_reverse_278bc_40 : cJ5_reverse_278bc.data.toList.drop 40 = TJ5_reverse_278bc_40 := dr1 DJ5_reverse_278bc_39
theorem DJ5_reverse_278bc_42 : cJ5_reverse_278bc.data.toList.drop 42 = TJ5_reverse_278bc_42 := dr2 DJ5_reverse_278bc_40
theorem DJ5_reverse_278bc_43 : cJ5_reverse_278bc.data.toList.drop 43 = TJ5_reverse_278bc_43 := dr1 DJ5_reverse_278bc_42
theorem DJ5_reverse_278bc_45 : cJ5_reverse_278bc.data.toList.drop 45 = TJ5_reverse_278bc_45 := dr2 DJ5_reverse_278bc_43
theorem DJ5_reverse_278bc_46 : cJ5_reverse_278bc.data.toList.drop 46 = TJ5_reverse_278bc_46 := dr1 DJ5_reverse_278bc_45
theorem DJ5_reverse_278bc_48 : cJ5_reverse_278bc.data.toList.drop 48 = TJ5_reverse_278bc_48 := dr2 DJ5_reverse_278bc_46
theorem DJ5_reverse_278bc_49 : cJ5_reverse_278bc.data.toList.drop 49 = TJ5_reverse_278bc_49 := dr1 DJ5_reverse_278bc_48
theorem DJ5_reverse_278bc_51 : cJ5_reverse_278bc.data.toList.drop 51 = TJ5_reverse_278bc_51 := dr2 DJ5_reverse_278bc_49
theorem DJ5_reverse_278bc_52 : cJ5_reverse_278bc.data.toList.drop 52 = TJ5_reverse_278bc_52 := dr1 DJ5_reverse_278bc_51
theorem DJ5_reverse_278bc_53 : cJ5_reverse_278bc.data.toList.drop 53 = TJ5_reverse_278bc_53 := dr1 DJ5_reverse_278bc_52
theorem DJ5_reverse_278bc_54 : cJ5_reverse_278bc.data.toList.drop 54 = TJ5_reverse_278bc_54 := dr1 DJ5_reverse_278bc_53
theorem DJ5_reverse_278bc_56 : cJ5_reverse_278bc.data.toList.drop 56 = TJ5_reverse_278bc_56 := dr2 DJ5_reverse_278bc_54
theorem DJ5_reverse_278bc_58 : cJ5_reverse_278bc.data.toList.drop 58 = TJ5_reverse_278bc_58 := dr2 DJ5_reverse_278bc_56
theorem DJ5_reverse_278bc_59 : cJ5_reverse_278bc.data.toList.drop 59 = TJ5_reverse_278bc_59 := dr1 DJ5_reverse_278bc_58
theorem DJ5_reverse_278bc_62 : cJ5_reverse_278bc.data.toList.drop 62 = TJ5_reverse_278bc_62 := dr3 DJ5_reverse_278bc_59
theorem DJ5_reverse_278bc_65 : cJ5_reverse_278bc.data.toList.drop 65 = TJ5_reverse_278bc_65 := dr3 DJ5_reverse_278bc_62
theorem DJ5_reverse_278bc_68 : cJ5_reverse_278bc.data.toList.drop 68 = TJ5_reverse_278bc_68 := dr3 DJ5_reverse_278bc_65
theorem DJ5_reverse_278bc_69 : cJ5_reverse_278bc.data.toList.drop 69 = TJ5_reverse_278bc_69 := dr1 DJ5_reverse_278bc_68
theorem DJ5_reverse_278bc_70 : cJ5_reverse_278bc.data.toList.drop 70 = TJ5_reverse_278bc_70 := dr1 DJ5_reverse_278bc_69
theorem DJ5_reverse_278bc_73 : cJ5_reverse_278bc.data.toList.drop 73 = TJ5_reverse_278bc_73 := dr3 DJ5_reverse_278bc_70
theorem DJ5_reverse_278bc_74 : cJ5_reverse_278bc.data.toList.drop 74 = TJ5_reverse_278bc_74 := dr1 DJ5_reverse_278bc_73
theorem dJ5_reverse_278bc_0 : decode cJ5_reverse_278bc 0 = .ok (.aload_n 0, 1) := do_2a DJ5_reverse_278bc_0
theorem dJ5_reverse_278bc_1 : decode cJ5_reverse_278bc 1 = .ok (.getfield 15, 3) := do_b4 DJ5_reverse_278bc_1
theorem dJ5_reverse_278bc_4 : decode cJ5_reverse_278bc 4 = .ok (.astore_n 1, 1) := do_4c DJ5_reverse_278bc_4
theorem dJ5_reverse_278bc_5 : decode cJ5_reverse_278bc 5 = .ok (.aload_n 0, 1) := do_2a DJ5_reverse_278bc_5
theorem dJ5_reverse_278bc_6 : decode cJ5_reverse_278bc 6 = .ok (.getfield 79, 3) := do_b4 DJ5_reverse_278bc_6
theorem dJ5_reverse_278bc_9 : decode cJ5_reverse_278bc 9 = .ok (.istore_n 2, 1) := do_3d DJ5_reverse_278bc_9
theorem dJ5_reverse_278bc_10 : decode cJ5_reverse_278bc 10 = .ok (.iload_n 2, 1) := do_1c DJ5_reverse_278bc_10
theorem dJ5_reverse_278bc_11 : decode cJ5_reverse_278bc 11 = .ok (.iconst 1, 1) := do_04 DJ5_reverse_278bc_11
theorem dJ5_reverse_278bc_12 : decode cJ5_reverse_278bc 12 = .ok (.isub, 1) := do_64 DJ5_reverse_278bc_12
theorem dJ5_reverse_278bc_13 : decode cJ5_reverse_278bc 13 = .ok (.istore_n 3, 1) := do_3e DJ5_reverse_278bc_13
theorem dJ5_reverse_278bc_14 : decode cJ5_reverse_278bc 14 = .ok (.aload_n 0, 1) := do_2a DJ5_reverse_278bc_14
theorem dJ5_reverse_278bc_15 : decode cJ5_reverse_278bc 15 = .ok (.invokevirtual 83, 3) := do_b6 DJ5_reverse_278bc_15
theorem dJ5_reverse_278bc_18 : decode cJ5_reverse_278bc 18 = .ok (.ifCond .eq 50, 3) := do_99 DJ5_reverse_278bc_18 (by decide +kernel)
theorem dJ5_reverse_278bc_21 : decode cJ5_reverse_278bc 21 = .ok (.iload_n 3, 1) := do_1d DJ5_reverse_278bc_21
theorem dJ5_reverse_278bc_22 : decode cJ5_reverse_278bc 22 = .ok (.iconst 1, 1) := do_04 DJ5_reverse_278bc_22
theorem dJ5_reverse_278bc_23 : decode cJ5_reverse_278bc 23 = .ok (.isub, 1) := do_64 DJ5_reverse_278bc_23
theorem dJ5_reverse_278bc_24 : decode cJ5_reverse_278bc 24 = .ok (.iconst 1, 1) := do_04 DJ5_reverse_278bc_24
theorem dJ5_reverse_278bc_25 : decode cJ5_reverse_278bc 25 = .ok (.ishr, 1) := do_7a DJ5_reverse_278bc_25
theorem dJ5_reverse_278bc_26 : decode cJ5_reverse_278bc 26 = .ok (.istore 4, 2) := do_36 DJ5_reverse_278bc_26
theorem dJ5_reverse_278bc_28 : decode cJ5_reverse_278bc 28 = .ok (.iload 4, 2) := do_15 DJ5_reverse_278bc_28
theorem dJ5_reverse_278bc_30 : decode cJ5_reverse_278bc 30 = .ok (.ifCond .lt 35, 3) := do_9b DJ5_reverse_278bc_30 (by decide +kernel)
theorem dJ5_reverse_278bc_33 : decode cJ5_reverse_278bc 33 = .ok (.iload_n 3, 1) := do_1d DJ5_reverse_278bc_33
theorem dJ5_reverse_278bc_34 : decode cJ5_reverse_278bc 34 = .ok (.iload 4, 2) := do_15 DJ5_reverse_278bc_34
theorem dJ5_reverse_278bc_36 : decode cJ5_reverse_278bc 36 = .ok (.isub, 1) := do_64 DJ5_reverse_278bc_36
theorem dJ5_reverse_278bc_37 : decode cJ5_reverse_278bc 37 = .ok (.istore 5, 2) := do_36 DJ5_reverse_278bc_37
theorem dJ5_reverse_278bc_39 : decode cJ5_reverse_278bc 39 = .ok (.aload_n 1, 1) := do_2b DJ5_reverse_278bc_39
theorem dJ5_reverse_278bc_40 : decode cJ5_reverse_278bc 40 = .ok (.iload 4, 2) := do_15 DJ5_reverse_278bc_40
theorem dJ5_reverse_278bc_42 : decode cJ5_reverse_278bc 42 = .ok (.baload, 1) := do_33 DJ5_reverse_278bc_42
theorem dJ5_reverse_278bc_43 : decode cJ5_reverse_278bc 43 = .ok (.istore 6, 2) := do_36 DJ5_reverse_278bc_43
theorem dJ5_reverse_278bc_45 : decode cJ5_reverse_278bc 45 = .ok (.aload_n 1, 1) := do_2b DJ5_reverse_278bc_45
theorem dJ5_reverse_278bc_46 : decode cJ5_reverse_278bc 46 = .ok (.iload 4, 2) := do_15 DJ5_reverse_278bc_46
theorem dJ5_reverse_278bc_48 : decode cJ5_reverse_278bc 48 = .ok (.aload_n 1, 1) := do_2b DJ5_reverse_278bc_48
theorem dJ5_reverse_278bc_49 : decode cJ5_reverse_278bc 49 = .ok (.iload 5, 2) := do_15 DJ5_reverse_278bc_49
theorem dJ5_reverse_278bc_51 : decode cJ5_reverse_278bc 51 = .ok (.baload, 1) := do_33 DJ5_reverse_278bc_51
theorem dJ5_reverse_278bc_52 : decode cJ5_reverse_278bc 52 = .ok (.bastore, 1) := do_54 DJ5_reverse_278bc_52
theorem dJ5_reverse_278bc_53 : decode cJ5_reverse_278bc 53 = .ok (.aload_n 1, 1) := do_2b DJ5_reverse_278bc_53
theorem dJ5_reverse_278bc_54 : decode cJ5_reverse_278bc 54 = .ok (.iload 5, 2) := do_15 DJ5_reverse_278bc_54
theorem dJ5_reverse_278bc_56 : decode cJ5_reverse_278bc 56 = .ok (.iload 6, 2) := do_15 DJ5_reverse_278bc_56
theorem dJ5_reverse_278bc_58 : decode cJ5_reverse_278bc 58 = .ok (.bastore, 1) := do_54 DJ5_reverse_278bc_58
theorem dJ5_reverse_278bc_59 : decode cJ5_reverse_278bc 59 = .ok (.iinc 4 (-1), 3) := do_84 DJ5_reverse_278bc_59
theorem dJ5_reverse_278bc_62 : decode cJ5_reverse_278bc 62 = .ok (.goto (-34), 3) := do_a7 DJ5_reverse_278bc_62 (by decide +kernel)
theorem dJ5_reverse_278bc_65 : decode cJ5_reverse_278bc 65 = .ok (.goto 8, 3) := do_a7 DJ5_reverse_278bc_65 (by decide +kernel)
theorem dJ5_reverse_278bc_68 : decode cJ5_reverse_278bc 68 = .ok (.aload_n 1, 1) := do_2b DJ5_reverse_278bc_68
theorem dJ5_reverse_278bc_69 : decode cJ5_reverse_278bc 69 = .ok (.iload_n 2, 1) := do_1c DJ5_reverse_278bc_69
theorem dJ5_reverse_278bc_70 : decode cJ5_reverse_278bc 70 = .ok (.invokestatic 358, 3) := do_b8 DJ5_reverse_278bc_70
theorem dJ5_reverse_278bc_73 : decode cJ5_reverse_278bc 73 = .ok (.aload_n 0, 1) := do_2a DJ5_reverse_278bc_73
theorem dJ5_reverse_278bc_74 : decode cJ5_reverse_278bc 74 = .ok (.areturn, 1) := do_b0 DJ5_reverse_278bc_74
def TJ5_getValue_6d5f1_5 : List UInt8 := []
def TJ5_getValue_6d5f1_4 : List UInt8 := 176 :: TJ5_getValue_6d5f1_5
def TJ5_getValue_6d5f1_1 : List UInt8 := 180 :: 0 :: 15 :: TJ5_getValue_6d5f1_4
def TJ5_getValue_6d5f1_0 : List UInt8 := 42 :: TJ5_getValue_6d5f1_1
theorem DJ5_getValue_6d5f1_0 : cJ5_getValue_6d5f1.data.toList.drop 0 = TJ5_getValue_6d5f1_0 := by decide +kernel
theorem DJ5_getValue_6d5f1_1 : cJ5_getValue_6d5f1.data.toList.drop 1 = TJ5_getValue_6d5f1_1 := dr1 DJ5_getValue_6d5f1_0
theorem DJ5_getValue_6d5f1_4 : cJ5_getValue_6d5f1.data.toList.drop 4 = TJ5_getValue_6d5f1_4 := dr3 DJ5_getValue_6d5f1_1
theorem dJ5_getValue_6d5f1_0 : decode cJ5_getValue_6d5f1 0 = .ok (.aload_n 0, 1) := do_2a DJ5_getValue_6d5f1_0
theorem dJ5_getValue_6d5f1_1 : decode cJ5_getValue_6d5f1 1 = .ok (.getfield 15, 3) := do_b4 DJ5_getValue_6d5f1_1
theorem dJ5_getValue_6d5f1_4 : decode cJ5_getValue_6d5f1 4 = .ok (.areturn, 1) := do_b0 DJ5_getValue_6d5f1_4
def TJ5_isLatin1_aae02_19 : List UInt8 := []
def TJ5_isLatin1_aae02_18 : List UInt8 := 172 :: TJ5_isLatin1_aae02_19
def TJ5_isLatin1_aae02_17 : List UInt8 := 3 :: TJ5_isLatin1_aae02_18
def TJ5_isLatin1_aae02_14 : List UInt8 := 167 :: 0 :: 4 :: TJ5_isLatin1_aae02_17
def TJ5_isLatin1_aae02_13 : List UInt8 := 4 :: TJ5_isLatin1_aae02_14
def TJ5_isLatin1_aae02_10 : List UInt8 := 154 :: 0 :: 7 :: TJ5_isLatin1_aae02_13
def TJ5_isLatin1_aae02_7 : List UInt8 := 180 :: 0 :: 22 :: TJ5_isLatin1_aae02_10
def TJ5_isLatin1_aae02_6 : List UInt8 := 42 :: TJ5_isLatin1_aae02_7
def TJ5_isLatin1_aae02_3 : List UInt8 := 153 :: 0 :: 14 :: TJ5_isLatin1_aae02_6
def TJ5_isLatin1_aae02_0 : List UInt8 := 178 :: 0 :: 18 :: TJ5_isLatin1_aae02_3
theorem DJ5_isLatin1_aae02_0 : cJ5_isLatin1_aae02.data.toList.drop 0 = TJ5_isLatin1_aae02_0 := by decide +kernel
theorem DJ5_isLatin1_aae02_3 : cJ5_isLatin1_aae02.data.toList.drop 3 = TJ5_isLatin1_aae02_3 := dr3 DJ5_isLatin1_aae02_0
theorem DJ5_isLatin1_aae02_6 : cJ5_isLatin1_aae02.data.toList.drop 6 = TJ5_isLatin1_aae02_6 := dr3 DJ5_isLatin1_aae02_3
theorem DJ5_isLatin1_aae02_7 : cJ5_isLatin1_aae02.data.toList.drop 7 = TJ5_isLatin1_aae02_7 := dr1 DJ5_isLatin1_aae02_6
theorem DJ5_isLatin1_aae02_10 : cJ5_isLatin1_aae02.data.toList.drop 10 = TJ5_isLatin1_aae02_10 := dr3 DJ5_isLatin1_aae02_7
theorem DJ5_isLatin1_aae02_13 : cJ5_isLatin1_aae02.data.toList.drop 13 = TJ5_isLatin1_aae02_13 := dr3 DJ5_isLatin1_aae02_10
theorem DJ5_isLatin1_aae02_14 : cJ5_isLatin1_aae02.data.toList.drop 14 = TJ5_isLatin1_aae02_14 := dr1 DJ5_isLatin1_aae02_13
theorem DJ5_isLatin1_aae02_17 : cJ5_isLatin1_aae02.data.toList.drop 17 = TJ5_isLatin1_aae02_17 := dr3 DJ5_isLatin1_aae02_14
theorem DJ5_isLatin1_aae02_18 : cJ5_isLatin1_aae02.data.toList.drop 18 = TJ5_isLatin1_aae02_18 := dr1 DJ5_isLatin1_aae02_17
theorem dJ5_isLatin1_aae02_0 : decode cJ5_isLatin1_aae02 0 = .ok (.getstatic 18, 3) := do_b2 DJ5_isLatin1_aae02_0
theorem dJ5_isLatin1_aae02_3 : decode cJ5_isLatin1_aae02 3 = .ok (.ifCond .eq 14, 3) := do_99 DJ5_isLatin1_aae02_3 (by decide +kernel)
theorem dJ5_isLatin1_aae02_6 : decode cJ5_isLatin1_aae02 6 = .ok (.aload_n 0, 1) := do_2a DJ5_isLatin1_aae02_6
theorem dJ5_isLatin1_aae02_7 : decode cJ5_isLatin1_aae02 7 = .ok (.getfield 22, 3) := do_b4 DJ5_isLatin1_aae02_7
theorem dJ5_isLatin1_aae02_10 : decode cJ5_isLatin1_aae02 10 = .ok (.ifCond .ne 7, 3) := do_9a DJ5_isLatin1_aae02_10 (by decide +kernel)
theorem dJ5_isLatin1_aae02_13 : decode cJ5_isLatin1_aae02 13 = .ok (.iconst 1, 1) := do_04 DJ5_isLatin1_aae02_13
theorem dJ5_isLatin1_aae02_14 : decode cJ5_isLatin1_aae02 14 = .ok (.goto 4, 3) := do_a7 DJ5_isLatin1_aae02_14 (by decide +kernel)
theorem dJ5_isLatin1_aae02_17 : decode cJ5_isLatin1_aae02 17 = .ok (.iconst 0, 1) := do_03 DJ5_isLatin1_aae02_17
theorem dJ5_isLatin1_aae02_18 : decode cJ5_isLatin1_aae02 18 = .ok (.ireturn, 1) := do_ac DJ5_isLatin1_aae02_18
def TJ5_inflateIfNeededFor_a7421_22 : List UInt8 := []
def TJ5_inflateIfNeededFor_a7421_21 : List UInt8 := 177 :: TJ5_inflateIfNeededFor_a7421_22
def TJ5_inflateIfNeededFor_a7421_18 : List UInt8 := 182 :: 0 :: 195 :: TJ5_inflateIfNeededFor_a7421_21
def TJ5_inflateIfNeededFor_a7421_17 : List UInt8 := 42 :: TJ5_inflateIfNeededFor_a7421_18
def TJ5_inflateIfNeededFor_a7421_14 : List UInt8 := 159 :: 0 :: 7 :: TJ5_inflateIfNeededFor_a7421_17
def TJ5_inflateIfNeededFor_a7421_11 : List UInt8 := 182 :: 0 :: 40 :: TJ5_inflateIfNeededFor_a7421_14
def TJ5_inflateIfNeededFor_a7421_10 : List UInt8 := 43 :: TJ5_inflateIfNeededFor_a7421_11
def TJ5_inflateIfNeededFor_a7421_7 : List UInt8 := 180 :: 0 :: 22 :: TJ5_inflateIfNeededFor_a7421_10
def TJ5_inflateIfNeededFor_a7421_6 : List UInt8 := 42 :: TJ5_inflateIfNeededFor_a7421_7
def TJ5_inflateIfNeededFor_a7421_3 : List UInt8 := 153 :: 0 :: 18 :: TJ5_inflateIfNeededFor_a7421_6
def TJ5_inflateIfNeededFor_a7421_0 : List UInt8 := 178 :: 0 :: 18 :: TJ5_inflateIfNeededFor_a7421_3
theorem DJ5_inflateIfNeededFor_a7421_0 : cJ5_inflateIfNeededFor_a7421.data.toList.drop 0 = TJ5_inflateIfNeededFor_a7421_0 := by decide +kernel
theorem DJ5_inflateIfNeededFor_a7421_3 : cJ5_inflateIfNeededFor_a7421.data.toList.drop 3 = TJ5_inflateIfNeededFor_a7421_3 := dr3 DJ5_inflateIfNeededFor_a7421_0
theorem DJ5_inflateIfNeededFor_a7421_6 : cJ5_inflateIfNeededFor_a7421.data.toList.drop 6 = TJ5_inflateIfNeededFor_a7421_6 := dr3 DJ5_inflateIfNeededFor_a7421_3
theorem DJ5_inflateIfNeededFor_a7421_7 : cJ5_inflateIfNeededFor_a7421.data.toList.drop 7 = TJ5_inflateIfNeededFor_a7421_7 := dr1 DJ5_inflateIfNeededFor_a7421_6
theorem DJ5_inflateIfNeededFor_a7421_10 : cJ5_inflateIfNeededFor_a7421.data.toList.drop 10 = TJ5_inflateIfNeededFor_a7421_10 := dr3 DJ5_inflateIfNeededFor_a7421_7
theorem DJ5_inflateIfNeededFor_a7421_11 : cJ5_inflateIfNeededFor_a7421.data.toList.drop 11 = TJ5_inflateIfNeededFor_a7421_11 := dr1 DJ5_inflateIfNeededFor_a7421_10
theorem DJ5_inflateIfNeededFor_a7421_14 : cJ5_inflateIfNeededFor_a7421.data.toList.drop 14 = TJ5_inflateIfNeededFor_a7421_14 := dr3 DJ5_inflateIfNeededFor_a7421_11
theorem DJ5_inflateIfNeededFor_a7421_17 : cJ5_inflateIfNeededFor_a7421.data.toList.drop 17 = TJ5_inflateIfNeededFor_a7421_17 := dr3 DJ5_inflateIfNeededFor_a7421_14
theorem DJ5_inflateIfNeededFor_a7421_18 : cJ5_inflateIfNeededFor_a7421.data.toList.drop 18 = TJ5_inflateIfNeededFor_a7421_18 := dr1 DJ5_inflateIfNeededFor_a7421_17
theorem DJ5_inflateIfNeededFor_a7421_21 : cJ5_inflateIfNeededFor_a7421.data.toList.drop 21 = TJ5_inflateIfNeededFor_a7421_21 := dr3 DJ5_inflateIfNeededFor_a7421_18
theorem dJ5_inflateIfNeededFor_a7421_0 : decode cJ5_inflateIfNeededFor_a7421 0 = .ok (.getstatic 18, 3) := do_b2 DJ5_inflateIfNeededFor_a7421_0
theorem dJ5_inflateIfNeededFor_a7421_3 : decode cJ5_inflateIfNeededFor_a7421 3 = .ok (.ifCond .eq 18, 3) := do_99 DJ5_inflateIfNeededFor_a7421_3 (by decide +kernel)
theorem dJ5_inflateIfNeededFor_a7421_6 : decode cJ5_inflateIfNeededFor_a7421 6 = .ok (.aload_n 0, 1) := do_2a DJ5_inflateIfNeededFor_a7421_6
theorem dJ5_inflateIfNeededFor_a7421_7 : decode cJ5_inflateIfNeededFor_a7421 7 = .ok (.getfield 22, 3) := do_b4 DJ5_inflateIfNeededFor_a7421_7
theorem dJ5_inflateIfNeededFor_a7421_10 : decode cJ5_inflateIfNeededFor_a7421 10 = .ok (.aload_n 1, 1) := do_2b DJ5_inflateIfNeededFor_a7421_10
theorem dJ5_inflateIfNeededFor_a7421_11 : decode cJ5_inflateIfNeededFor_a7421 11 = .ok (.invokevirtual 40, 3) := do_b6 DJ5_inflateIfNeededFor_a7421_11
theorem dJ5_inflateIfNeededFor_a7421_14 : decode cJ5_inflateIfNeededFor_a7421 14 = .ok (.if_icmp .eq 7, 3) := do_9f DJ5_inflateIfNeededFor_a7421_14 (by decide +kernel)
theorem dJ5_inflateIfNeededFor_a7421_17 : decode cJ5_inflateIfNeededFor_a7421 17 = .ok (.aload_n 0, 1) := do_2a DJ5_inflateIfNeededFor_a7421_17
theorem dJ5_inflateIfNeededFor_a7421_18 : decode cJ5_inflateIfNeededFor_a7421 18 = .ok (.invokevirtual 195, 3) := do_b6 DJ5_inflateIfNeededFor_a7421_18
theorem dJ5_inflateIfNeededFor_a7421_21 : decode cJ5_inflateIfNeededFor_a7421 21 = .ok (.return_, 1) := do_b1 DJ5_inflateIfNeededFor_a7421_21
def TJ5_putStringAt_47b60_19 : List UInt8 := []
def TJ5_putStringAt_47b60_18 : List UInt8 := 177 :: TJ5_putStringAt_47b60_19
def TJ5_putStringAt_47b60_15 : List UInt8 := 182 :: 1 :: 143 :: TJ5_putStringAt_47b60_18
def TJ5_putStringAt_47b60_12 : List UInt8 := 180 :: 0 :: 22 :: TJ5_putStringAt_47b60_15
def TJ5_putStringAt_47b60_11 : List UInt8 := 42 :: TJ5_putStringAt_47b60_12
def TJ5_putStringAt_47b60_10 : List UInt8 := 27 :: TJ5_putStringAt_47b60_11
def TJ5_putStringAt_47b60_7 : List UInt8 := 180 :: 0 :: 15 :: TJ5_putStringAt_47b60_10
def TJ5_putStringAt_47b60_6 : List UInt8 := 42 :: TJ5_putStringAt_47b60_7
def TJ5_putStringAt_47b60_5 : List UInt8 := 44 :: TJ5_putStringAt_47b60_6
def TJ5_putStringAt_47b60_2 : List UInt8 := 182 :: 1 :: 141 :: TJ5_putStringAt_47b60_5
def TJ5_putStringAt_47b60_1 : List UInt8 := 44 :: TJ5_putStringAt_47b60_2
def TJ5_putStringAt_47b60_0 : List UInt8 := 42 :: TJ5_putStringAt_47b60_1
theorem DJ5_putStringAt_47b60_0 : cJ5_putStringAt_47b60.data.toList.drop 0 = TJ5_putStringAt_47b60_0 := by decide +kernel
theorem DJ5_putStringAt_47b60_1 : cJ5_putStringAt_47b60.data.toList.drop 1 = TJ5_putStringAt_47b60_1 := dr1 DJ5_putStringAt_47b60_0
theorem DJ5_putStringAt_47b60_2 : cJ5_putStringAt_47b60.data.toList.drop 2 = TJ5_putStringAt_47b60_2 := dr1 DJ5_putStringAt_47b60_1
theorem DJ5_putStringAt_47b60_5 : cJ5_putStringAt_47b60.data.toList.drop 5 = TJ5_putStringAt_47b60_5 := dr3 DJ5_putStringAt_47b60_2
theorem DJ5_putStringAt_47b60_6 : cJ5_putStringAt_47b60.data.toList.drop 6 = TJ5_putStringAt_47b60_6 := dr1 DJ5_putStringAt_47b60_5
theorem DJ5_putStringAt_47b60_7 : cJ5_putStringAt_47b60.data.toList.drop 7 = TJ5_putStringAt_47b60_7 := dr1 DJ5_putStringAt_47b60_6
theorem DJ5_putStringAt_47b60_10 : cJ5_putStringAt_47b60.data.toList.drop 10 = TJ5_putStringAt_47b60_10 := dr3 DJ5_putStringAt_47b60_7
theorem DJ5_putStringAt_47b60_11 : cJ5_putStringAt_47b60.data.toList.drop 11 = TJ5_putStringAt_47b60_11 := dr1 DJ5_putStringAt_47b60_10
theorem DJ5_putStringAt_47b60_12 : cJ5_putStringAt_47b60.data.toList.drop 12 = TJ5_putStringAt_47b60_12 := dr1 DJ5_putStringAt_47b60_11
theorem DJ5_putStringAt_47b60_15 : cJ5_putStringAt_47b60.data.toList.drop 15 = TJ5_putStringAt_47b60_15 := dr3 DJ5_putStringAt_47b60_12
theorem DJ5_putStringAt_47b60_18 : cJ5_putStringAt_47b60.data.toList.drop 18 = TJ5_putStringAt_47b60_18 := dr3 DJ5_putStringAt_47b60_15
theorem dJ5_putStringAt_47b60_0 : decode cJ5_putStringAt_47b60 0 = .ok (.aload_n 0, 1) := do_2a DJ5_putStringAt_47b60_0
theorem dJ5_putStringAt_47b60_1 : decode cJ5_putStringAt_47b60 1 = .ok (.aload_n 2, 1) := do_2c DJ5_putStringAt_47b60_1
theorem dJ5_putStringAt_47b60_2 : decode cJ5_putStringAt_47b60 2 = .ok (.invokevirtual 397, 3) := do_b6 DJ5_putStringAt_47b60_2
theorem dJ5_putStringAt_47b60_5 : decode cJ5_putStringAt_47b60 5 = .ok (.aload_n 2, 1) := do_2c DJ5_putStringAt_47b60_5
theorem dJ5_putStringAt_47b60_6 : decode cJ5_putStringAt_47b60 6 = .ok (.aload_n 0, 1) := do_2a DJ5_putStringAt_47b60_6
theorem dJ5_putStringAt_47b60_7 : decode cJ5_putStringAt_47b60 7 = .ok (.getfield 15, 3) := do_b4 DJ5_putStringAt_47b60_7
theorem dJ5_putStringAt_47b60_10 : decode cJ5_putStringAt_47b60 10 = .ok (.iload_n 1, 1) := do_1b DJ5_putStringAt_47b60_10
theorem dJ5_putStringAt_47b60_11 : decode cJ5_putStringAt_47b60 11 = .ok (.aload_n 0, 1) := do_2a DJ5_putStringAt_47b60_11
theorem dJ5_putStringAt_47b60_12 : decode cJ5_putStringAt_47b60 12 = .ok (.getfield 22, 3) := do_b4 DJ5_putStringAt_47b60_12
theorem dJ5_putStringAt_47b60_15 : decode cJ5_putStringAt_47b60 15 = .ok (.invokevirtual 399, 3) := do_b6 DJ5_putStringAt_47b60_15
theorem dJ5_putStringAt_47b60_18 : decode cJ5_putStringAt_47b60 18 = .ok (.return_, 1) := do_b1 DJ5_putStringAt_47b60_18
def TJx00060_init_d00df_24 : List UInt8 := []
def TJx00060_init_d00df_23 : List UInt8 := 177 :: TJx00060_init_d00df_24
def TJx00060_init_d00df_20 : List UInt8 := 183 :: 0 :: 7 :: TJx00060_init_d00df_23
def TJx00060_init_d00df_17 : List UInt8 := 182 :: 0 :: 22 :: TJx00060_init_d00df_20
def TJx00060_init_d00df_14 : List UInt8 := 182 :: 0 :: 19 :: TJx00060_init_d00df_17
def TJx00060_init_d00df_13 : List UInt8 := 27 :: TJx00060_init_d00df_14
def TJx00060_init_d00df_10 : List UInt8 := 182 :: 0 :: 15 :: TJx00060_init_d00df_13
def TJx00060_init_d00df_8 : List UInt8 := 18 :: 13 :: TJx00060_init_d00df_10
def TJx00060_init_d00df_5 : List UInt8 := 183 :: 0 :: 12 :: TJx00060_init_d00df_8
def TJx00060_init_d00df_4 : List UInt8 := 89 :: TJx00060_init_d00df_5
def TJx00060_init_d00df_1 : List UInt8 := 187 :: 0 :: 10 :: TJx00060_init_d00df_4
def TJx00060_init_d00df_0 : List UInt8 := 42 :: TJx00060_init_d00df_1
theorem DJx00060_init_d00df_0 : cJx00060_init_d00df.data.toList.drop 0 = TJx00060_init_d00df_0 := by decide +kernel
theorem DJx00060_init_d00df_1 : cJx00060_init_d00df.data.toList.drop 1 = TJx00060_init_d00df_1 := dr1 DJx00060_init_d00df_0
theorem DJx00060_init_d00df_4 : cJx00060_init_d00df.data.toList.drop 4 = TJx00060_init_d00df_4 := dr3 DJx00060_init_d00df_1
theorem DJx00060_init_d00df_5 : cJx00060_init_d00df.data.toList.drop 5 = TJx00060_init_d00df_5 := dr1 DJx00060_init_d00df_4
theorem DJx00060_init_d00df_8 : cJx00060_init_d00df.data.toList.drop 8 = TJx00060_init_d00df_8 := dr3 DJx00060_init_d00df_5
theorem DJx00060_init_d00df_10 : cJx00060_init_d00df.data.toList.drop 10 = TJx00060_init_d00df_10 := dr2 DJx00060_init_d00df_8
theorem DJx00060_init_d00df_13 : cJx00060_init_d00df.data.toList.drop 13 = TJx00060_init_d00df_13 := dr3 DJx00060_init_d00df_10
theorem DJx00060_init_d00df_14 : cJx00060_init_d00df.data.toList.drop 14 = TJx00060_init_d00df_14 := dr1 DJx00060_init_d00df_13
theorem DJx00060_init_d00df_17 : cJx00060_init_d00df.data.toList.drop 17 = TJx00060_init_d00df_17 := dr3 DJx00060_init_d00df_14
theorem DJx00060_init_d00df_20 : cJx00060_init_d00df.data.toList.drop 20 = TJx00060_init_d00df_20 := dr3 DJx00060_init_d00df_17
theorem DJx00060_init_d00df_23 : cJx00060_init_d00df.data.toList.drop 23 = TJx00060_init_d00df_23 := dr3 DJx00060_init_d00df_20
theorem dJx00060_init_d00df_0 : decode cJx00060_init_d00df 0 = .ok (.aload_n 0, 1) := do_2a DJx00060_init_d00df_0
theorem dJx00060_init_d00df_1 : decode cJx00060_init_d00df 1 = .ok (.new 10, 3) := do_bb DJx00060_init_d00df_1
theorem dJx00060_init_d00df_4 : decode cJx00060_init_d00df 4 = .ok (.dup, 1) := do_59 DJx00060_init_d00df_4
theorem dJx00060_init_d00df_5 : decode cJx00060_init_d00df 5 = .ok (.invokespecial 12, 3) := do_b7 DJx00060_init_d00df_5
theorem dJx00060_init_d00df_8 : decode cJx00060_init_d00df 8 = .ok (.ldc 13, 2) := by decide +kernel
theorem dJx00060_init_d00df_10 : decode cJx00060_init_d00df 10 = .ok (.invokevirtual 15, 3) := do_b6 DJx00060_init_d00df_10
theorem dJx00060_init_d00df_13 : decode cJx00060_init_d00df 13 = .ok (.iload_n 1, 1) := do_1b DJx00060_init_d00df_13
theorem dJx00060_init_d00df_14 : decode cJx00060_init_d00df 14 = .ok (.invokevirtual 19, 3) := do_b6 DJx00060_init_d00df_14
theorem dJx00060_init_d00df_17 : decode cJx00060_init_d00df 17 = .ok (.invokevirtual 22, 3) := do_b6 DJx00060_init_d00df_17
theorem dJx00060_init_d00df_20 : decode cJx00060_init_d00df 20 = .ok (.invokespecial 7, 3) := do_b7 DJx00060_init_d00df_20
theorem dJx00060_init_d00df_23 : decode cJx00060_init_d00df 23 = .ok (.return_, 1) := do_b1 DJx00060_init_d00df_23
def TJ11_isHighSurrogate_fc78d_18 : List UInt8 := []
def TJ11_isHighSurrogate_fc78d_17 : List UInt8 := 172 :: TJ11_isHighSurrogate_fc78d_18
def TJ11_isHighSurrogate_fc78d_16 : List UInt8 := 3 :: TJ11_isHighSurrogate_fc78d_17
def TJ11_isHighSurrogate_fc78d_13 : List UInt8 := 167 :: 0 :: 4 :: TJ11_isHighSurrogate_fc78d_16
def TJ11_isHighSurrogate_fc78d_12 : List UInt8 := 4 :: TJ11_isHighSurrogate_fc78d_13
def TJ11_isHighSurrogate_fc78d_9 : List UInt8 := 162 :: 0 :: 7 :: TJ11_isHighSurrogate_fc78d_12
def TJ11_isHighSurrogate_fc78d_7 : List UInt8 := 18 :: 76 :: TJ11_isHighSurrogate_fc78d_9
def TJ11_isHighSurrogate_fc78d_6 : List UInt8 := 26 :: TJ11_isHighSurrogate_fc78d_7
def TJ11_isHighSurrogate_fc78d_3 : List UInt8 := 161 :: 0 :: 13 :: TJ11_isHighSurrogate_fc78d_6
def TJ11_isHighSurrogate_fc78d_1 : List UInt8 := 18 :: 75 :: TJ11_isHighSurrogate_fc78d_3
def TJ11_isHighSurrogate_fc78d_0 : List UInt8 := 26 :: TJ11_isHighSurrogate_fc78d_1
theorem DJ11_isHighSurrogate_fc78d_0 : cJ11_isHighSurrogate_fc78d.data.toList.drop 0 = TJ11_isHighSurrogate_fc78d_0 := by decide +kernel
theorem DJ11_isHighSurrogate_fc78d_1 : cJ11_isHighSurrogate_fc78d.data.toList.drop 1 = TJ11_isHighSurrogate_fc78d_1 := dr1 DJ11_isHighSurrogate_fc78d_0
theorem DJ11_isHighSurrogate_fc78d_3 : cJ11_isHighSurrogate_fc78d.data.toList.drop 3 = TJ11_isHighSurrogate_fc78d_3 := dr2 DJ11_isHighSurrogate_fc78d_1
theorem DJ11_isHighSurrogate_fc78d_6 : cJ11_isHighSurrogate_fc78d.data.toList.drop 6 = TJ11_isHighSurrogate_fc78d_6 := dr3 DJ11_isHighSurrogate_fc78d_3
theorem DJ11_isHighSurrogate_fc78d_7 : cJ11_isHighSurrogate_fc78d.data.toList.drop 7 = TJ11_isHighSurrogate_fc78d_7 := dr1 DJ11_isHighSurrogate_fc78d_6
theorem DJ11_isHighSurrogate_fc78d_9 : cJ11_isHighSurrogate_fc78d.data.toList.drop 9 = TJ11_isHighSurrogate_fc78d_9 := dr2 DJ11_isHighSurrogate_fc78d_7
theorem DJ11_isHighSurrogate_fc78d_12 : cJ11_isHighSurrogate_fc78d.data.toList.drop 12 = TJ11_isHighSurrogate_fc78d_12 := dr3 DJ11_isHighSurrogate_fc78d_9
theorem DJ11_isHighSurrogate_fc78d_13 : cJ11_isHighSurrogate_fc78d.data.toList.drop 13 = TJ11_isHighSurrogate_fc78d_13 := dr1 DJ11_isHighSurrogate_fc78d_12
theorem DJ11_isHighSurrogate_fc78d_16 : cJ11_isHighSurrogate_fc78d.data.toList.drop 16 = TJ11_isHighSurrogate_fc78d_16 := dr3 DJ11_isHighSurrogate_fc78d_13
theorem DJ11_isHighSurrogate_fc78d_17 : cJ11_isHighSurrogate_fc78d.data.toList.drop 17 = TJ11_isHighSurrogate_fc78d_17 := dr1 DJ11_isHighSurrogate_fc78d_16
theorem dJ11_isHighSurrogate_fc78d_0 : decode cJ11_isHighSurrogate_fc78d 0 = .ok (.iload_n 0, 1) := do_1a DJ11_isHighSurrogate_fc78d_0
theorem dJ11_isHighSurrogate_fc78d_1 : decode cJ11_isHighSurrogate_fc78d 1 = .ok (.ldc 75, 2) := by decide +kernel
theorem dJ11_isHighSurrogate_fc78d_3 : decode cJ11_isHighSurrogate_fc78d 3 = .ok (.if_icmp .lt 13, 3) := do_a1 DJ11_isHighSurrogate_fc78d_3 (by decide +kernel)
theorem dJ11_isHighSurrogate_fc78d_6 : decode cJ11_isHighSurrogate_fc78d 6 = .ok (.iload_n 0, 1) := do_1a DJ11_isHighSurrogate_fc78d_6
theorem dJ11_isHighSurrogate_fc78d_7 : decode cJ11_isHighSurrogate_fc78d 7 = .ok (.ldc 76, 2) := by decide +kernel
theorem dJ11_isHighSurrogate_fc78d_9 : decode cJ11_isHighSurrogate_fc78d 9 = .ok (.if_icmp .ge 7, 3) := do_a2 DJ11_isHighSurrogate_fc78d_9 (by decide +kernel)
theorem dJ11_isHighSurrogate_fc78d_12 : decode cJ11_isHighSurrogate_fc78d 12 = .ok (.iconst 1, 1) := do_04 DJ11_isHighSurrogate_fc78d_12
theorem dJ11_isHighSurrogate_fc78d_13 : decode cJ11_isHighSurrogate_fc78d 13 = .ok (.goto 4, 3) := do_a7 DJ11_isHighSurrogate_fc78d_13 (by decide +kernel)
theorem dJ11_isHighSurrogate_fc78d_16 : decode cJ11_isHighSurrogate_fc78d 16 = .ok (.iconst 0, 1) := do_03 DJ11_isHighSurrogate_fc78d_16
theorem dJ11_isHighSurrogate_fc78d_17 : decode cJ11_isHighSurrogate_fc78d 17 = .ok (.ireturn, 1) := do_ac DJ11_isHighSurrogate_fc78d_17
def TJ11_isLowSurrogate_fc78d_18 : List UInt8 := []
def TJ11_isLowSurrogate_fc78d_17 : List UInt8 := 172 :: TJ11_isLowSurrogate_fc78d_18
def TJ11_isLowSurrogate_fc78d_16 : List UInt8 := 3 :: TJ11_isLowSurrogate_fc78d_17
def TJ11_isLowSurrogate_fc78d_13 : List UInt8 := 167 :: 0 :: 4 :: TJ11_isLowSurrogate_fc78d_16
def TJ11_isLowSurrogate_fc78d_12 : List UInt8 := 4 :: TJ11_isLowSurrogate_fc78d_13
def TJ11_isLowSurrogate_fc78d_9 : List UInt8 := 162 :: 0 :: 7 :: TJ11_isLowSurrogate_fc78d_12
def TJ11_isLowSurrogate_fc78d_7 : List UInt8 := 18 :: 77 :: TJ11_isLowSurrogate_fc78d_9
def TJ11_isLowSurrogate_fc78d_6 : List UInt8 := 26 :: TJ11_isLowSurrogate_fc78d_7
def TJ11_isLowSurrogate_fc78d_3 : List UInt8 := 161 :: 0 :: 13 :: TJ11_isLowSurrogate_fc78d_6
def TJ11_isLowSurrogate_fc78d_1 : List UInt8 := 18 :: 76 :: TJ11_isLowSurrogate_fc78d_3
def TJ11_isLowSurrogate_fc78d_0 : List UInt8 := 26 :: TJ11_isLowSurrogate_fc78d_1
theorem DJ11_isLowSurrogate_fc78d_0 : cJ11_isLowSurrogate_fc78d.data.toList.drop 0 = TJ11_isLowSurrogate_fc78d_0 := by decide +kernel
theorem DJ11_isLowSurrogate_fc78d_1 : cJ11_isLowSurrogate_fc78d.data.toList.drop 1 = TJ11_isLowSurrogate_fc78d_1 := dr1 DJ11_isLowSurrogate_fc78d_0
theorem DJ11_isLowSurrogate_fc78d_3 : cJ11_isLowSurrogate_fc78d.data.toList.drop 3 = TJ11_isLowSurrogate_fc78d_3 := dr2 DJ11_isLowSurrogate_fc78d_1
theorem DJ11_isLowSurrogate_fc78d_6 : cJ11_isLowSurrogate_fc78d.data.toList.drop 6 = TJ11_isLowSurrogate_fc78d_6 := dr3 DJ11_isLowSurrogate_fc78d_3
theorem DJ11_isLowSurrogate_fc78d_7 : cJ11_isLowSurrogate_fc78d.data.toList.drop 7 = TJ11_isLowSurrogate_fc78d_7 := dr1 DJ11_isLowSurrogate_fc78d_6
theorem DJ11_isLowSurrogate_fc78d_9 : cJ11_isLowSurrogate_fc78d.data.toList.drop 9 = TJ11_isLowSurrogate_fc78d_9 := dr2 DJ11_isLowSurrogate_fc78d_7
theorem DJ11_isLowSurrogate_fc78d_12 : cJ11_isLowSurrogate_fc78d.data.toList.drop 12 = TJ11_isLowSurrogate_fc78d_12 := dr3 DJ11_isLowSurrogate_fc78d_9
theorem DJ11_isLowSurrogate_fc78d_13 : cJ11_isLowSurrogate_fc78d.data.toList.drop 13 = TJ11_isLowSurrogate_fc78d_13 := dr1 DJ11_isLowSurrogate_fc78d_12
theorem DJ11_isLowSurrogate_fc78d_16 : cJ11_isLowSurrogate_fc78d.data.toList.drop 16 = TJ11_isLowSurrogate_fc78d_16 := dr3 DJ11_isLowSurrogate_fc78d_13
theorem DJ11_isLowSurrogate_fc78d_17 : cJ11_isLowSurrogate_fc78d.data.toList.drop 17 = TJ11_isLowSurrogate_fc78d_17 := dr1 DJ11_isLowSurrogate_fc78d_16
theorem dJ11_isLowSurrogate_fc78d_0 : decode cJ11_isLowSurrogate_fc78d 0 = .ok (.iload_n 0, 1) := do_1a DJ11_isLowSurrogate_fc78d_0
theorem dJ11_isLowSurrogate_fc78d_1 : decode cJ11_isLowSurrogate_fc78d 1 = .ok (.ldc 76, 2) := by decide +kernel
theorem dJ11_isLowSurrogate_fc78d_3 : decode cJ11_isLowSurrogate_fc78d 3 = .ok (.if_icmp .lt 13, 3) := do_a1 DJ11_isLowSurrogate_fc78d_3 (by decide +kernel)
theorem dJ11_isLowSurrogate_fc78d_6 : decode cJ11_isLowSurrogate_fc78d 6 = .ok (.iload_n 0, 1) := do_1a DJ11_isLowSurrogate_fc78d_6
theorem dJ11_isLowSurrogate_fc78d_7 : decode cJ11_isLowSurrogate_fc78d 7 = .ok (.ldc 77, 2) := by decide +kernel
theorem dJ11_isLowSurrogate_fc78d_9 : decode cJ11_isLowSurrogate_fc78d 9 = .ok (.if_icmp .ge 7, 3) := do_a2 DJ11_isLowSurrogate_fc78d_9 (by decide +kernel)
theorem dJ11_isLowSurrogate_fc78d_12 : decode cJ11_isLowSurrogate_fc78d 12 = .ok (.iconst 1, 1) := do_04 DJ11_isLowSurrogate_fc78d_12
theorem dJ11_isLowSurrogate_fc78d_13 : decode cJ11_isLowSurrogate_fc78d 13 = .ok (.goto 4, 3) := do_a7 DJ11_isLowSurrogate_fc78d_13 (by decide +kernel)
theorem dJ11_isLowSurrogate_fc78d_16 : decode cJ11_isLowSurrogate_fc78d 16 = .ok (.iconst 0, 1) := do_03 DJ11_isLowSurrogate_fc78d_16
theorem dJ11_isLowSurrogate_fc78d_17 : decode cJ11_isLowSurrogate_fc78d 17 = .ok (.ireturn, 1) := do_ac DJ11_isLowSurrogate_fc78d_17
def TJ11_isSurrogate_fc78d_18 : List UInt8 := []
def TJ11_isSurrogate_fc78d_17 : List UInt8 := 172 :: TJ11_isSurrogate_fc78d_18
def TJ11_isSurrogate_fc78d_16 : List UInt8 := 3 :: TJ11_isSurrogate_fc78d_17
def TJ11_isSurrogate_fc78d_13 : List UInt8 := 167 :: 0 :: 4 :: TJ11_isSurrogate_fc78d_16
def TJ11_isSurrogate_fc78d_12 : List UInt8 := 4 :: TJ11_isSurrogate_fc78d_13
def TJ11_isSurrogate_fc78d_9 : List UInt8 := 162 :: 0 :: 7 :: TJ11_isSurrogate_fc78d_12
def TJ11_isSurrogate_fc78d_7 : List UInt8 := 18 :: 77 :: TJ11_isSurrogate_fc78d_9
def TJ11_isSurrogate_fc78d_6 : List UInt8 := 26 :: TJ11_isSurrogate_fc78d_7
def TJ11_isSurrogate_fc78d_3 : List UInt8 := 161 :: 0 :: 13 :: TJ11_isSurrogate_fc78d_6
def TJ11_isSurrogate_fc78d_1 : List UInt8 := 18 :: 75 :: TJ11_isSurrogate_fc78d_3
def TJ11_isSurrogate_fc78d_0 : List UInt8 := 26 :: TJ11_isSurrogate_fc78d_1
theorem DJ11_isSurrogate_fc78d_0 : cJ11_isSurrogate_fc78d.data.toList.drop 0 = TJ11_isSurrogate_fc78d_0 := by decide +kernel
theorem DJ11_isSurrogate_fc78d_1 : cJ11_isSurrogate_fc78d.data.toList.drop 1 = TJ11_isSurrogate_fc78d_1 := dr1 DJ11_isSurrogate_fc78d_0
theorem DJ11_isSurrogate_fc78d_3 : cJ11_isSurrogate_fc78d.data.toList.drop 3 = TJ11_isSurrogate_fc78d_3 := dr2 DJ11_isSurrogate_fc78d_1
theorem DJ11_isSurrogate_fc78d_6 : cJ11_isSurrogate_fc78d.data.toList.drop 6 = TJ11_isSurrogate_fc78d_6 := dr3 DJ11_isSurrogate_fc78d_3
theorem DJ11_isSurrogate_fc78d_7 : cJ11_isSurrogate_fc78d.data.toList.drop 7 = TJ11_isSurrogate_fc78d_7 := dr1 DJ11_isSurrogate_fc78d_6
theorem DJ11_isSurrogate_fc78d_9 : cJ11_isSurrogate_fc78d.data.toList.drop 9 = TJ11_isSurrogate_fc78d_9 := dr2 DJ11_isSurrogate_fc78d_7
theorem DJ11_isSurrogate_fc78d_12 : cJ11_isSurrogate_fc78d.data.toList.drop 12 = TJ11_isSurrogate_fc78d_12 := dr3 DJ11_isSurrogate_fc78d_9
theorem DJ11_isSurrogate_fc78d_13 : cJ11_isSurrogate_fc78d.data.toList.drop 13 = TJ11_isSurrogate_fc78d_13 := dr1 DJ11_isSurrogate_fc78d_12
theorem DJ11_isSurrogate_fc78d_16 : cJ11_isSurrogate_fc78d.data.toList.drop 16 = TJ11_isSurrogate_fc78d_16 := dr3 DJ11_isSurrogate_fc78d_13
theorem DJ11_isSurrogate_fc78d_17 : cJ11_isSurrogate_fc78d.data.toList.drop 17 = TJ11_isSurrogate_fc78d_17 := dr1 DJ11_isSurrogate_fc78d_16
theorem dJ11_isSurrogate_fc78d_0 : decode cJ11_isSurrogate_fc78d 0 = .ok (.iload_n 0, 1) := do_1a DJ11_isSurrogate_fc78d_0
theorem dJ11_isSurrogate_fc78d_1 : decode cJ11_isSurrogate_fc78d 1 = .ok (.ldc 75, 2) := by decide +kernel
theorem dJ11_isSurrogate_fc78d_3 : decode cJ11_isSurrogate_fc78d 3 = .ok (.if_icmp .lt 13, 3) := do_a1 DJ11_isSurrogate_fc78d_3 (by decide +kernel)
theorem dJ11_isSurrogate_fc78d_6 : decode cJ11_isSurrogate_fc78d 6 = .ok (.iload_n 0, 1) := do_1a DJ11_isSurrogate_fc78d_6
theorem dJ11_isSurrogate_fc78d_7 : decode cJ11_isSurrogate_fc78d 7 = .ok (.ldc 77, 2) := by decide +kernel
theorem dJ11_isSurrogate_fc78d_9 : decode cJ11_isSurrogate_fc78d 9 = .ok (.if_icmp .ge 7, 3) := do_a2 DJ11_isSurrogate_fc78d_9 (by decide +kernel)
theorem dJ11_isSurrogate_fc78d_12 : decode cJ11_isSurrogate_fc78d 12 = .ok (.iconst 1, 1) := do_04 DJ11_isSurrogate_fc78d_12
theorem dJ11_isSurrogate_fc78d_13 : decode cJ11_isSurrogate_fc78d 13 = .ok (.goto 4, 3) := do_a7 DJ11_isSurrogate_fc78d_13 (by decide +kernel)
theorem dJ11_isSurrogate_fc78d_16 : decode cJ11_isSurrogate_fc78d 16 = .ok (.iconst 0, 1) := do_03 DJ11_isSurrogate_fc78d_16
theorem dJ11_isSurrogate_fc78d_17 : decode cJ11_isSurrogate_fc78d 17 = .ok (.ireturn, 1) := do_ac DJ11_isSurrogate_fc78d_17
def TJ6_getChars_ba4f3_121 : List UInt8 := []
def TJ6_getChars_ba4f3_120 : List UInt8 := 172 :: TJ6_getChars_ba4f3_121
def TJ6_getChars_ba4f3_118 : List UInt8 := 21 :: 5 :: TJ6_getChars_ba4f3_120
def TJ6_getChars_ba4f3_117 : List UInt8 := 84 :: TJ6_getChars_ba4f3_118
def TJ6_getChars_ba4f3_115 : List UInt8 := 16 :: 45 :: TJ6_getChars_ba4f3_117
def TJ6_getChars_ba4f3_113 : List UInt8 := 21 :: 5 :: TJ6_getChars_ba4f3_115
def TJ6_getChars_ba4f3_110 : List UInt8 := 132 :: 5 :: 255 :: TJ6_getChars_ba4f3_113
def TJ6_getChars_ba4f3_109 : List UInt8 := 44 :: TJ6_getChars_ba4f3_110
def TJ6_getChars_ba4f3_106 : List UInt8 := 153 :: 0 :: 12 :: TJ6_getChars_ba4f3_109
def TJ6_getChars_ba4f3_104 : List UInt8 := 21 :: 6 :: TJ6_getChars_ba4f3_106
def TJ6_getChars_ba4f3_103 : List UInt8 := 84 :: TJ6_getChars_ba4f3_104
def TJ6_getChars_ba4f3_102 : List UInt8 := 51 :: TJ6_getChars_ba4f3_103
def TJ6_getChars_ba4f3_101 : List UInt8 := 116 :: TJ6_getChars_ba4f3_102
def TJ6_getChars_ba4f3_100 : List UInt8 := 26 :: TJ6_getChars_ba4f3_101
def TJ6_getChars_ba4f3_97 : List UInt8 := 178 :: 0 :: 87 :: TJ6_getChars_ba4f3_100
def TJ6_getChars_ba4f3_95 : List UInt8 := 21 :: 5 :: TJ6_getChars_ba4f3_97
def TJ6_getChars_ba4f3_92 : List UInt8 := 132 :: 5 :: 255 :: TJ6_getChars_ba4f3_95
def TJ6_getChars_ba4f3_91 : List UInt8 := 44 :: TJ6_getChars_ba4f3_92
def TJ6_getChars_ba4f3_88 : List UInt8 := 162 :: 0 :: 16 :: TJ6_getChars_ba4f3_91
def TJ6_getChars_ba4f3_86 : List UInt8 := 16 :: 247 :: TJ6_getChars_ba4f3_88
def TJ6_getChars_ba4f3_85 : List UInt8 := 26 :: TJ6_getChars_ba4f3_86
def TJ6_getChars_ba4f3_84 : List UInt8 := 84 :: TJ6_getChars_ba4f3_85
def TJ6_getChars_ba4f3_83 : List UInt8 := 51 :: TJ6_getChars_ba4f3_84
def TJ6_getChars_ba4f3_82 : List UInt8 := 116 :: TJ6_getChars_ba4f3_83
def TJ6_getChars_ba4f3_81 : List UInt8 := 26 :: TJ6_getChars_ba4f3_82
def TJ6_getChars_ba4f3_78 : List UInt8 := 178 :: 0 :: 83 :: TJ6_getChars_ba4f3_81
def TJ6_getChars_ba4f3_76 : List UInt8 := 21 :: 5 :: TJ6_getChars_ba4f3_78
def TJ6_getChars_ba4f3_73 : List UInt8 := 132 :: 5 :: 255 :: TJ6_getChars_ba4f3_76
def TJ6_getChars_ba4f3_72 : List UInt8 := 44 :: TJ6_getChars_ba4f3_73
def TJ6_getChars_ba4f3_69 : List UInt8 := 167 :: 255 :: 209 :: TJ6_getChars_ba4f3_72
def TJ6_getChars_ba4f3_68 : List UInt8 := 84 :: TJ6_getChars_ba4f3_69
def TJ6_getChars_ba4f3_67 : List UInt8 := 51 :: TJ6_getChars_ba4f3_68
def TJ6_getChars_ba4f3_65 : List UInt8 := 21 :: 4 :: TJ6_getChars_ba4f3_67
def TJ6_getChars_ba4f3_62 : List UInt8 := 178 :: 0 :: 87 :: TJ6_getChars_ba4f3_65
def TJ6_getChars_ba4f3_60 : List UInt8 := 21 :: 5 :: TJ6_getChars_ba4f3_62
def TJ6_getChars_ba4f3_57 : List UInt8 := 132 :: 5 :: 255 :: TJ6_getChars_ba4f3_60
def TJ6_getChars_ba4f3_56 : List UInt8 := 44 :: TJ6_getChars_ba4f3_57
def TJ6_getChars_ba4f3_55 : List UInt8 := 84 :: TJ6_getChars_ba4f3_56
def TJ6_getChars_ba4f3_54 : List UInt8 := 51 :: TJ6_getChars_ba4f3_55
def TJ6_getChars_ba4f3_52 : List UInt8 := 21 :: 4 :: TJ6_getChars_ba4f3_54
def TJ6_getChars_ba4f3_49 : List UInt8 := 178 :: 0 :: 83 :: TJ6_getChars_ba4f3_52
def TJ6_getChars_ba4f3_47 : List UInt8 := 21 :: 5 :: TJ6_getChars_ba4f3_49
def TJ6_getChars_ba4f3_44 : List UInt8 := 132 :: 5 :: 255 :: TJ6_getChars_ba4f3_47
def TJ6_getChars_ba4f3_43 : List UInt8 := 44 :: TJ6_getChars_ba4f3_44
def TJ6_getChars_ba4f3_42 : List UInt8 := 59 :: TJ6_getChars_ba4f3_43
def TJ6_getChars_ba4f3_41 : List UInt8 := 29 :: TJ6_getChars_ba4f3_42
def TJ6_getChars_ba4f3_39 : List UInt8 := 54 :: 4 :: TJ6_getChars_ba4f3_41
def TJ6_getChars_ba4f3_38 : List UInt8 := 100 :: TJ6_getChars_ba4f3_39
def TJ6_getChars_ba4f3_37 : List UInt8 := 26 :: TJ6_getChars_ba4f3_38
def TJ6_getChars_ba4f3_36 : List UInt8 := 104 :: TJ6_getChars_ba4f3_37
def TJ6_getChars_ba4f3_34 : List UInt8 := 16 :: 100 :: TJ6_getChars_ba4f3_36
def TJ6_getChars_ba4f3_33 : List UInt8 := 29 :: TJ6_getChars_ba4f3_34
def TJ6_getChars_ba4f3_32 : List UInt8 := 62 :: TJ6_getChars_ba4f3_33
def TJ6_getChars_ba4f3_31 : List UInt8 := 108 :: TJ6_getChars_ba4f3_32
def TJ6_getChars_ba4f3_29 : List UInt8 := 16 :: 100 :: TJ6_getChars_ba4f3_31
def TJ6_getChars_ba4f3_28 : List UInt8 := 26 :: TJ6_getChars_ba4f3_29
def TJ6_getChars_ba4f3_25 : List UInt8 := 163 :: 0 :: 47 :: TJ6_getChars_ba4f3_28
def TJ6_getChars_ba4f3_23 : List UInt8 := 16 :: 156 :: TJ6_getChars_ba4f3_25
def TJ6_getChars_ba4f3_22 : List UInt8 := 26 :: TJ6_getChars_ba4f3_23
def TJ6_getChars_ba4f3_21 : List UInt8 := 59 :: TJ6_getChars_ba4f3_22
def TJ6_getChars_ba4f3_20 : List UInt8 := 116 :: TJ6_getChars_ba4f3_21
def TJ6_getChars_ba4f3_19 : List UInt8 := 26 :: TJ6_getChars_ba4f3_20
def TJ6_getChars_ba4f3_16 : List UInt8 := 154 :: 0 :: 6 :: TJ6_getChars_ba4f3_19
def TJ6_getChars_ba4f3_14 : List UInt8 := 21 :: 6 :: TJ6_getChars_ba4f3_16
def TJ6_getChars_ba4f3_12 : List UInt8 := 54 :: 6 :: TJ6_getChars_ba4f3_14
def TJ6_getChars_ba4f3_11 : List UInt8 := 3 :: TJ6_getChars_ba4f3_12
def TJ6_getChars_ba4f3_8 : List UInt8 := 167 :: 0 :: 4 :: TJ6_getChars_ba4f3_11
def TJ6_getChars_ba4f3_7 : List UInt8 := 4 :: TJ6_getChars_ba4f3_8
def TJ6_getChars_ba4f3_4 : List UInt8 := 156 :: 0 :: 7 :: TJ6_getChars_ba4f3_7
def TJ6_getChars_ba4f3_3 : List UInt8 := 26 :: TJ6_getChars_ba4f3_4
def TJ6_getChars_ba4f3_1 : List UInt8 := 54 :: 5 :: TJ6_getChars_ba4f3_3
def TJ6_getChars_ba4f3_0 : List UInt8 := 27 :: TJ6_getChars_ba4f3_1
theorem DJ6_getChars_ba4f3_0 : cJ6_getChars_ba4f3.data.toList.drop 0 = TJ6_getChars_ba4f3_0 := by decide +kernel
theorem DJ6_getChars_ba4f3_1 : cJ6_getChars_ba4f3.data.toList.drop 1 = TJ6_getChars_ba4f3_1 := dr1 DJ6_getChars_ba4f3_0
theorem DJ6_getChars_ba4f3_3 : cJ6_getChars_ba4f3.data.toList.drop 3 = TJ6_getChars_ba4f3_3 := dr2 DJ6_getChars_ba4f3_1
theorem DJ6_getChars_ba4f3_4 : cJ6_getChars_ba4f3.data.toList.drop 4 = TJ6_getChars_ba4f3_4 := dr1 DJ6_getChars_ba4f3_3
theorem DJ6_getChars_ba4f3_7 : cJ6_getChars_ba4f3.data.toList.drop 7 = TJ6_getChars_ba4f3_7 := dr3 DJ6_getChars_ba4f3_4
theorem DJ6_getChars_ba4f3_8 : cJ6_getChars_ba4f3.data.toList.drop 8 = TJ6_getChars_ba4f3_8 := dr1 DJ6_getChars_ba4f3_7
theorem DJ6_getChars_ba4f3_11 : cJ6_getChars_ba4f3.data.toList.drop 11 = TJ6_getChars_ba4f3_11 := dr3 DJ6_getChars_ba4f3_8
theorem DJ6_getChars_ba4f3_12 : cJ6_getChars_ba4f3.data.toList.drop 12 = TJ6_getChars_ba4f3_12 := dr1 DJ6_getChars_ba4f3_11
theorem DJ6_getChars_ba4f3_14 : cJ6_getChars_ba4f3.data.toList.drop 14 = TJ6_getChars_ba4f3_14 := dr2 DJ6_getChars_ba4f3_12
theorem DJ6_getChars_ba4f3_16 : cJ6_getChars_ba4f3.data.toList.drop 16 = TJ6_getChars_ba4f3_16 := dr2 DJ6_getChars_ba4f3_14
theorem DJ6_getChars_ba4f3_19 : cJ6_getChars_ba4f3.data.toList.drop 19 = TJ6_getChars_ba4f3_19 := dr3 DJ6_getChars_ba4f3_16
theorem DJ6_getChars_ba4f3_20 : cJ6_getChars_ba4f3.data.toList.drop 20 = TJ6_getChars_ba4f3_20 := dr1 DJ6_getChars_ba4f3_19
theorem DJ6_getChars_ba4f3_21 : cJ6_getChars_ba4f3.data.toList.drop 21 = TJ6_getChars_ba4f3_21 := dr1 DJ6_getChars_ba4f3_20
theorem DJ6_getChars_ba4f3_22 : cJ6_getChars_ba4f3.data.toList.drop 22 = TJ6_getChars_ba4f3_22 := dr1 DJ6_getChars_ba4f3_21
theorem DJ6_getChars_ba4f3_23 : cJ6_getChars_ba4f3.data.toList.drop 23 = TJ6_getChars_ba4f3_23 := dr1 DJ6_getChars_ba4f3_22
theorem DJ6_getChars_ba4f3_25 : cJ6_getChars_ba4f3.data.toList.drop 25 = TJ6_getChars_ba4f3_25 := dr2 DJ6_getChars_ba4f3_23
theorem DJ6_getChars_ba4f3_28 : cJ6_getChars_ba4f3.data.toList.drop 28 = TJ6_getChars_ba4f3_28 := dr3 DJ6_getChars_ba4f3_25
theorem DJ6_getChars_ba4f3_29 : cJ6_getChars_ba4f3.data.toList.drop 29 = TJ6_getChars_ba4f3_29 := dr1 DJ6_getChars_ba4f3_28
theorem DJ6_getChars_ba4f3_31 : cJ6_getChars_ba4f3.data.toList.drop 31 = TJ6_getChars_ba4f3_31 := dr2 DJ6_getChars_ba4f3_29
theorem DJ6_getChars_ba4f3_32 : cJ6_getChars_ba4f3.data.toList.drop 32 = TJ6_getChars_ba4f3_32 := dr1 DJ6_getChars_ba4f3_31
theorem DJ6_getChars_ba4f3_33 : cJ6_getChars_ba4f3.data.toList.drop 33 = TJ6_getChars_ba4f3_33 := dr1 DJ6_getChars_ba4f3_32
theorem DJ6_getChars_ba4f3_34 : cJ6_getChars_ba4f3.data.toList.drop 34 = TJ6_getChars_ba4f3_34 := dr1 DJ6_getChars_ba4f3_33
theorem DJ6_getChars_ba4f3_36 : cJ6_getChars_ba4f3.data.toList.drop 36 = TJ6_getChars_ba4f3_36 := dr2 DJ6_getChars_ba4f3_34
theorem DJ6_getChars_ba4f3_37 : cJ6_getChars_ba4f3.data.toList.drop 37 = TJ6_getChars_ba4f3_37 := dr1 DJ6_getChars_ba4f3_36
theorem DJ6_getChars_ba4f3_38 : cJ6_getChars_ba4f3.data.toList.drop 38 = TJ6_getChars_ba4f3_38 := dr1 DJ6_getChars_ba4f3_37
theorem DJ6_getChars_ba4f3_39 : cJ6_getChars_ba4f3.data.toList.drop 39 = TJ6_getChars_ba4f3_39 := dr1 DJ6_getChars_ba4f3_38
theorem DJ6_getChars_ba4f3_41 : cJ6_getChars_ba4f3.data.toList.drop 41 = TJ6_getChars_ba4f3_41 := dr2 DJ6_getChars_ba4f3_39
theorem DJ6_getChars_ba4f3_42 : cJ6_getChars_ba4f3.data.toList.drop 42 = TJ6_getChars_ba4f3_42 := dr1 DJ6_getChars_ba4f3_41
theorem DJ6_getChars_ba4f3_43 : cJ6_getChars_ba4f3.data.toList.drop 43 = TJ6_getChars_ba4f3_43 := dr1 DJ6_getChars_ba4f3_42
theorem DJ6_getChars_ba4f3_44 : cJ6_getChars_ba4f3.data.toList.drop 44 = TJ6_getChars_ba4f3_44 := dr1 DJ6_getChars_ba4f3_43
theorem DJ6_getChars_ba4f3_47 : cJ6_getChars_ba4f3.data.toList.drop 47 = TJ6_getChars_ba4f3_47 := dr3 DJ6_getChars_ba4f3_44
theorem DJ6_getChars_ba4f3_49 : cJ6_getChars_ba4f3.data.toList.drop 49 = TJ6_getChars_ba4f3_49 := dr2 DJ6_getChars_ba4f3_47
theorem DJ6_getChars_ba4f3_52 : cJ6_getChars_ba4f3.data.toList.drop 52 = TJ6_getChars_ba4f3_52 := dr3 DJ6_getChars_ba4f3_49
theorem DJ6_getChars_ba4f3_54 : cJ6_getChars_ba4f3.data.toList.drop 54 = TJ6_getChars_ba4f3_54 := dr2 DJ6_getChars_ba4f3_52
theorem DJ6_getChars_ba4f3_55 : cJ6_getChars_ba4f3.data.toList.drop 55 = TJ6_getChars_ba4f3_55 := dr1 DJ6_getChars_ba4f3_54
theorem DJ6_getChars_ba4f3_56 : cJ6_getChars_ba4f3.data.toList.drop 56 = TJ6_getChars_ba4f3_56 := dr1 DJ6_getChars_ba4f3_55
theorem DJ6_getChars_ba4f3_57 : cJ6_getChars_ba4f3.data.toList.drop 57 = TJ6_getChars_ba4f3_57 := dr1 DJ6_getChars_ba4f3_56
theorem DJ6_getChars_ba4f3_60 : cJ6_getChars_ba4f3.data.toList.drop 60 = TJ6_getChars_ba4f3_60 := dr3 DJ6_getChars_ba4f3_57
theorem DJ6_getChars_ba4f3_62 : cJ6_getChars_ba4f3.data.toList.drop 62 = TJ6_getChars_ba4f3_62 := dr2 DJ6_getChars_ba4f3_60
theorem DJ6_getChars_ba4f3_65 : cJ6_getChars_ba4f3.data.toList.drop 65 = TJ6_getChars_ba4f3_65 := dr3 DJ6_getChars_ba4f3_62
theorem DJ6_getChars_ba4f3_67 : cJ6_getChars_ba4f3.data.toList.drop 67 = TJ6_getChars_ba4f3_67 := dr2 DJ6_getChars_ba4f3_65
theorem DJ6_getChars_ba4f3_68 : cJ6_getChars_ba4f3.data.toList.drop 68 = TJ6_getChars_ba4f3_68 := dr1 DJ6_getChars_ba4f3_67
theorem DJ6_getChars_ba4f3_69 : cJ6_getChars_ba4f3.data.toList.drop 69 = TJ6_getChars_ba4f3_69 := dr1 DJ6_getChars_ba4f3_68
theorem DJ6_getChars_ba4f3_72 : cJ6_getChars_ba4f3.data.toList.drop 72 = TJ6_getChars_ba4f3_72 := dr3 DJ6_getChars_ba4f3_69
theorem DJ6_getChars_ba4f3_73 : cJ6_getChars_ba4f3.data.toList.drop 73 = TJ6_getChars_ba4f3_73 := dr1 DJ6_getChars_ba4f3_72
theorem DJ6_getChars_ba4f3_76 : cJ6_getChars_ba4f3.data.toList.drop 76 = TJ6_getChars_ba4f3_76 := dr3 DJ6_getChars_ba4f3_73
theorem DJ6_getChars_ba4f3_78 : cJ6_getChars_ba4f3.data.toList.drop 78 = TJ6_getChars_ba4f3_78 := dr2 DJ6_getChars_ba4f3_76
theorem DJ6_getChars_ba4f3_81 : cJ6_getChars_ba4f3.data.toList.drop 81 = TJ6_getChars_ba4f3_81 := dr3 DJ6_getChars_ba4f3_78
theorem DJ6_getChars_ba4f3_82 : cJ6_getChars_ba4f3.data.toList.drop 82 = TJ6_getChars_ba4f3_82 := dr1 DJ6_getChars_ba4f3_81
theorem DJ6_getChars_ba4f3_83 : cJ6_getChars_ba4f3.data.toList.drop 83 = TJ6_getChars_ba4f3_83 := dr1 DJ6_getChars_ba4f3_82
theorem DJ6_getChars_ba4f3_84 : cJ6_getChars_ba4f3.data.toList.drop 84 = TJ6_getChars_ba4f3_84 := dr1 DJ6_getChars_ba4f3_83
theorem DJ6_getChars_ba4f3_85 : cJ6_getChars_ba4f3.data.toList.drop 85 = TJ6_getChars_ba4f3_85 := dr1 DJ6_getChars_ba4f3_84
theorem DJ6_getChars_ba4f3_86 : cJ6_getChars_ba4f3.data.toList.drop 86 = TJ6_getChars_ba4f3_86 := dr1 DJ6_getChars_ba4f3_85
theorem DJ6_getChars_ba4f3_88 : cJ6_getChars_ba4f3.data.toList.drop 88 = TJ6_getChars_ba4f3_88 := dr2 DJ6_getChars_ba4f3_86
theorem DJ6_getChars_ba4f3_91 : cJ6_getChars_ba4f3.data.toList.drop 91 = TJ6_getChars_ba4f3_91 := dr3 DJ6_getChars_ba4f3_88
theorem DJ6_getChars_ba4f3_92 : cJ6_getChars_ba4f3.data.toList.drop 92 = TJ6_getChars_ba4f3_92 := dr1 DJ6_getChars_ba4f3_91
theorem DJ6_getChars_ba4f3_95 : cJ6_getChars_ba4f3.data.toList.drop 95 = TJ6_getChars_ba4f3_95 := dr3 DJ6_getChars_ba4f3_92
theorem DJ6_getChars_ba4f3_97 : cJ6_getChars_ba4f3.data.toList.drop 97 = TJ6_getChars_ba4f3_97 := dr2 DJ6_getChars_ba4f3_95
theorem DJ6_getChars_ba4f3_100 : cJ6_getChars_ba4f3.data.toList.drop 100 = TJ6_getChars_ba4f3_100 := dr3 DJ6_getChars_ba4f3_97
theorem DJ6_getChars_ba4f3_101 : cJ6_getChars_ba4f3.data.toList.drop 101 = TJ6_getChars_ba4f3_101 := dr1 DJ6_getChars_ba4f3_100
theorem DJ6_getChars_ba4f3_102 : cJ6_getChars_ba4f3.data.toList.drop 102 = TJ6_getChars_ba4f3_102 := dr1 DJ6_getChars_ba4f3_101
theorem DJ6_getChars_ba4f3_103 : cJ6_getChars_ba4f3.data.toList.drop 103 = TJ6_getChars_ba4f3_103 := dr1 DJ6_getChars_ba4f3_102
theorem DJ6_getChars_ba4f3_104 : cJ6_getChars_ba4f3.data.toList.drop 104 = TJ6_getChars_ba4f3_104 := dr1 DJ6_getChars_ba4f3_103
theorem DJ6_getChars_ba4f3_106 : cJ6_getChars_ba4f3.data.toList.drop 106 = TJ6_getChars_ba4f3_106 := dr2 DJ6_getChars_ba4f3_104
theorem DJ6_getChars_ba4f3_109 : cJ6_getChars_ba4f3.data.toList.drop 109 = TJ6_getChars_ba4f3_109 := dr3 DJ6_getChars_ba4f3_106
theorem DJ6_getChars_ba4f3_110 : cJ6_getChars_ba4f3.data.toList.drop 110 = TJ6_getChars_ba4f3_110 := dr1 DJ6_getChars_ba4f3_109
theorem DJ6_getChars_ba4f3_113 : cJ6_getChars_ba4f3.data.toList.drop 113 = TJ6_getChars_ba4f3_113 := dr3 DJ6_getChars_ba4f3_110
theorem DJ6_getChars_ba4f3_115 : cJ6_getChars_ba4f3.data.toList.drop 115 = TJ6_getChars_ba4f3_115 := dr2 DJ6_getChars_ba4f3_113
theorem DJ6_getChars_ba4f3_117 : cJ6_getChars_ba4f3.data.toList.drop 117 = TJ6_getChars_ba4f3_117 := dr2 DJ6_getChars_ba4f3_115
theorem DJ6_getChars_ba4f3_118 : cJ6_getChars_ba4f3.data.toList.drop 118 = TJ6_getChars_ba4f3_118 := dr1 DJ6_getChars_ba4f3_117
theorem DJ6_getChars_ba4f3_120 : cJ6_getChars_ba4f3.data.toList.drop 120 = TJ6_getChars_ba4f3_120 := dr2 DJ6_getChars_ba4f3_118
theorem dJ6_getChars_ba4f3_0 : decode cJ6_getChars_ba4f3 0 = .ok (.iload_n 1, 1) := do_1b DJ6_getChars_ba4f3_0
theorem dJ6_getChars_ba4f3_1 : decode cJ6_getChars_ba4f3 1 = .ok (.istore 5, 2) := do_36 DJ6_getChars_ba4f3_1
theorem dJ6_getChars_ba4f3_3 : decode cJ6_getChars_ba4f3 3 = .ok (.iload_n 0, 1) := do_1a DJ6_getChars_ba4f3_3
theorem dJ6_getChars_ba4f3_4 : decode cJ6_getChars_ba4f3 4 = .ok (.ifCond .ge 7, 3) := do_9c DJ6_getChars_ba4f3_4 (by decide +kernel)
theorem dJ6_getChars_ba4f3_7 : decode cJ6_getChars_ba4f3 7 = .ok (.iconst 1, 1) := do_04 DJ6_getChars_ba4f3_7
theorem dJ6_getChars_ba4f3_8 : decode cJ6_getChars_ba4f3 8 = .ok (.goto 4, 3) := do_a7 DJ6_getChars_ba4f3_8 (by decide +kernel)
theorem dJ6_getChars_ba4f3_11 : decode cJ6_getChars_ba4f3 11 = .ok (.iconst 0, 1) := do_03 DJ6_getChars_ba4f3_11
theorem dJ6_getChars_ba4f3_12 : decode cJ6_getChars_ba4f3 12 = .ok (.istore 6, 2) := do_36 DJ6_getChars_ba4f3_12
theorem dJ6_getChars_ba4f3_14 : decode cJ6_getChars_ba4f3 14 = .ok (.iload 6, 2) := do_15 DJ6_getChars_ba4f3_14
theorem dJ6_getChars_ba4f3_16 : decode cJ6_getChars_ba4f3 16 = .ok (.ifCond .ne 6, 3) := do_9a DJ6_getChars_ba4f3_16 (by decide +kernel)
theorem dJ6_getChars_ba4f3_19 : decode cJ6_getChars_ba4f3 19 = .ok (.iload_n 0, 1) := do_1a DJ6_getChars_ba4f3_19
theorem dJ6_getChars_ba4f3_20 : decode cJ6_getChars_ba4f3 20 = .ok (.ineg, 1) := do_74 DJ6_getChars_ba4f3_20
theorem dJ6_getChars_ba4f3_21 : decode cJ6_getChars_ba4f3 21 = .ok (.istore_n 0, 1) := do_3b DJ6_getChars_ba4f3_21
theorem dJ6_getChars_ba4f3_22 : decode cJ6_getChars_ba4f3 22 = .ok (.iload_n 0, 1) := do_1a DJ6_getChars_ba4f3_22
theorem dJ6_getChars_ba4f3_23 : decode cJ6_getChars_ba4f3 23 = .ok (.bipush (-100), 2) := do_10 DJ6_getChars_ba4f3_23 (by decide +kernel)
theorem dJ6_getChars_ba4f3_25 : decode cJ6_getChars_ba4f3 25 = .ok (.if_icmp .gt 47, 3) := do_a3 DJ6_getChars_ba4f3_25 (by decide +kernel)
theorem dJ6_getChars_ba4f3_28 : decode cJ6_getChars_ba4f3 28 = .ok (.iload_n 0, 1) := do_1a DJ6_getChars_ba4f3_28
theorem dJ6_getChars_ba4f3_29 : decode cJ6_getChars_ba4f3 29 = .ok (.bipush 100, 2) := do_10 DJ6_getChars_ba4f3_29 (by decide +kernel)
theorem dJ6_getChars_ba4f3_31 : decode cJ6_getChars_ba4f3 31 = .ok (.idiv, 1) := do_6c DJ6_getChars_ba4f3_31
theorem dJ6_getChars_ba4f3_32 : decode cJ6_getChars_ba4f3 32 = .ok (.istore_n 3, 1) := do_3e DJ6_getChars_ba4f3_32
theorem dJ6_getChars_ba4f3_33 : decode cJ6_getChars_ba4f3 33 = .ok (.iload_n 3, 1) := do_1d DJ6_getChars_ba4f3_33
theorem dJ6_getChars_ba4f3_34 : decode cJ6_getChars_ba4f3 34 = .ok (.bipush 100, 2) := do_10 DJ6_getChars_ba4f3_34 (by decide +kernel)
theorem dJ6_getChars_ba4f3_36 : decode cJ6_getChars_ba4f3 36 = .ok (.imul, 1) := do_68 DJ6_getChars_ba4f3_36
theorem dJ6_getChars_ba4f3_37 : decode cJ6_getChars_ba4f3 37 = .ok (.iload_n 0, 1) := do_1a DJ6_getChars_ba4f3_37
theorem dJ6_getChars_ba4f3_38 : decode cJ6_getChars_ba4f3 38 = .ok (.isub, 1) := do_64 DJ6_getChars_ba4f3_38
theorem dJ6_getChars_ba4f3_39 : decode cJ6_getChars_ba4f3 39 = .ok (.istore 4, 2) := do_36 DJ6_getChars_ba4f3_39
theorem dJ6_getChars_ba4f3_41 : decode cJ6_getChars_ba4f3 41 = .ok (.iload_n 3, 1) := do_1d DJ6_getChars_ba4f3_41
theorem dJ6_getChars_ba4f3_42 : decode cJ6_getChars_ba4f3 42 = .ok (.istore_n 0, 1) := do_3b DJ6_getChars_ba4f3_42
theorem dJ6_getChars_ba4f3_43 : decode cJ6_getChars_ba4f3 43 = .ok (.aload_n 2, 1) := do_2c DJ6_getChars_ba4f3_43
theorem dJ6_getChars_ba4f3_44 : decode cJ6_getChars_ba4f3 44 = .ok (.iinc 5 (-1), 3) := do_84 DJ6_getChars_ba4f3_44
theorem dJ6_getChars_ba4f3_47 : decode cJ6_getChars_ba4f3 47 = .ok (.iload 5, 2) := do_15 DJ6_getChars_ba4f3_47
theorem dJ6_getChars_ba4f3_49 : decode cJ6_getChars_ba4f3 49 = .ok (.getstatic 83, 3) := do_b2 DJ6_getChars_ba4f3_49
theorem dJ6_getChars_ba4f3_52 : decode cJ6_getChars_ba4f3 52 = .ok (.iload 4, 2) := do_15 DJ6_getChars_ba4f3_52
theorem dJ6_getChars_ba4f3_54 : decode cJ6_getChars_ba4f3 54 = .ok (.baload, 1) := do_33 DJ6_getChars_ba4f3_54
theorem dJ6_getChars_ba4f3_55 : decode cJ6_getChars_ba4f3 55 = .ok (.bastore, 1) := do_54 DJ6_getChars_ba4f3_55
theorem dJ6_getChars_ba4f3_56 : decode cJ6_getChars_ba4f3 56 = .ok (.aload_n 2, 1) := do_2c DJ6_getChars_ba4f3_56
theorem dJ6_getChars_ba4f3_57 : decode cJ6_getChars_ba4f3 57 = .ok (.iinc 5 (-1), 3) := do_84 DJ6_getChars_ba4f3_57
theorem dJ6_getChars_ba4f3_60 : decode cJ6_getChars_ba4f3 60 = .ok (.iload 5, 2) := do_15 DJ6_getChars_ba4f3_60
theorem dJ6_getChars_ba4f3_62 : decode cJ6_getChars_ba4f3 62 = .ok (.getstatic 87, 3) := do_b2 DJ6_getChars_ba4f3_62
theorem dJ6_getChars_ba4f3_65 : decode cJ6_getChars_ba4f3 65 = .ok (.iload 4, 2) := do_15 DJ6_getChars_ba4f3_65
theorem dJ6_getChars_ba4f3_67 : decode cJ6_getChars_ba4f3 67 = .ok (.baload, 1) := do_33 DJ6_getChars_ba4f3_67
theorem dJ6_getChars_ba4f3_68 : decode cJ6_getChars_ba4f3 68 = .ok (.bastore, 1) := do_54 DJ6_getChars_ba4f3_68
theorem dJ6_getChars_ba4f3_69 : decode cJ6_getChars_ba4f3 69 = .ok (.goto (-47), 3) := do_a7 DJ6_getChars_ba4f3_69 (by decide +kernel)
theorem dJ6_getChars_ba4f3_72 : decode cJ6_getChars_ba4f3 72 = .ok (.aload_n 2, 1) := do_2c DJ6_getChars_ba4f3_72
theorem dJ6_getChars_ba4f3_73 : decode cJ6_getChars_ba4f3 73 = .ok (.iinc 5 (-1), 3) := do_84 DJ6_getChars_ba4f3_73
theorem dJ6_getChars_ba4f3_76 : decode cJ6_getChars_ba4f3 76 = .ok (.iload 5, 2) := do_15 DJ6_getChars_ba4f3_76
theorem dJ6_getChars_ba4f3_78 : decode cJ6_getChars_ba4f3 78 = .ok (.getstatic 83, 3) := do_b2 DJ6_getChars_ba4f3_78
theorem dJ6_getChars_ba4f3_81 : decode cJ6_getChars_ba4f3 81 = .ok (.iload_n 0, 1) := do_1a DJ6_getChars_ba4f3_81
theorem dJ6_getChars_ba4f3_82 : decode cJ6_getChars_ba4f3 82 = .ok (.ineg, 1) := do_74 DJ6_getChars_ba4f3_82
theorem dJ6_getChars_ba4f3_83 : decode cJ6_getChars_ba4f3 83 = .ok (.baload, 1) := do_33 DJ6_getChars_ba4f3_83
theorem dJ6_getChars_ba4f3_84 : decode cJ6_getChars_ba4f3 84 = .ok (.bastore, 1) := do_54 DJ6_getChars_ba4f3_84
theorem dJ6_getChars_ba4f3_85 : decode cJ6_getChars_ba4f3 85 = .ok (.iload_n 0, 1) := do_1a DJ6_getChars_ba4f3_85
theorem dJ6_getChars_ba4f3_86 : decode cJ6_getChars_ba4f3 86 = .ok (.bipush (-9), 2) := do_10 DJ6_getChars_ba4f3_86 (by decide +kernel)
theorem dJ6_getChars_ba4f3_88 : decode cJ6_getChars_ba4f3 88 = .ok (.if_icmp .ge 16, 3) := do_a2 DJ6_getChars_ba4f3_88 (by decide +kernel)
theorem dJ6_getChars_ba4f3_91 : decode cJ6_getChars_ba4f3 91 = .ok (.aload_n 2, 1) := do_2c DJ6_getChars_ba4f3_91
theorem dJ6_getChars_ba4f3_92 : decode cJ6_getChars_ba4f3 92 = .ok (.iinc 5 (-1), 3) := do_84 DJ6_getChars_ba4f3_92
theorem dJ6_getChars_ba4f3_95 : decode cJ6_getChars_ba4f3 95 = .ok (.iload 5, 2) := do_15 DJ6_getChars_ba4f3_95
theorem dJ6_getChars_ba4f3_97 : decode cJ6_getChars_ba4f3 97 = .ok (.getstatic 87, 3) := do_b2 DJ6_getChars_ba4f3_97
theorem dJ6_getChars_ba4f3_100 : decode cJ6_getChars_ba4f3 100 = .ok (.iload_n 0, 1) := do_1a DJ6_getChars_ba4f3_100
theorem dJ6_getChars_ba4f3_101 : decode cJ6_getChars_ba4f3 101 = .ok (.ineg, 1) := do_74 DJ6_getChars_ba4f3_101
theorem dJ6_getChars_ba4f3_102 : decode cJ6_getChars_ba4f3 102 = .ok (.baload, 1) := do_33 DJ6_getChars_ba4f3_102
theorem dJ6_getChars_ba4f3_103 : decode cJ6_getChars_ba4f3 103 = .ok (.bastore, 1) := do_54 DJ6_getChars_ba4f3_103
theorem dJ6_getChars_ba4f3_104 : decode cJ6_getChars_ba4f3 104 = .ok (.iload 6, 2) := do_15 DJ6_getChars_ba4f3_104
theorem dJ6_getChars_ba4f3_106 : decode cJ6_getChars_ba4f3 106 = .ok (.ifCond .eq 12, 3) := do_99 DJ6_getChars_ba4f3_106 (by decide +kernel)
theorem dJ6_getChars_ba4f3_109 : decode cJ6_getChars_ba4f3 109 = .ok (.aload_n 2, 1) := do_2c DJ6_getChars_ba4f3_109
theorem dJ6_getChars_ba4f3_110 : decode cJ6_getChars_ba4f3 110 = .ok (.iinc 5 (-1), 3) := do_84 DJ6_getChars_ba4f3_110
theorem dJ6_getChars_ba4f3_113 : decode cJ6_getChars_ba4f3 113 = .ok (.iload 5, 2) := do_15 DJ6_getChars_ba4f3_113
theorem dJ6_getChars_ba4f3_115 : decode cJ6_getChars_ba4f3 115 = .ok (.bipush 45, 2) := do_10 DJ6_getChars_ba4f3_115 (by decide +kernel)
theorem dJ6_getChars_ba4f3_117 : decode cJ6_getChars_ba4f3 117 = .ok (.bastore, 1) := do_54 DJ6_getChars_ba4f3_117
theorem dJ6_getChars_ba4f3_118 : decode cJ6_getChars_ba4f3 118 = .ok (.iload 5, 2) := do_15 DJ6_getChars_ba4f3_118
theorem dJ6_getChars_ba4f3_120 : decode cJ6_getChars_ba4f3 120 = .ok (.ireturn, 1) := do_ac DJ6_getChars_ba4f3_120
def TJ6_stringSize_0f7a4_47 : List UInt8 := []
def TJ6_stringSize_0f7a4_46 : List UInt8 := 172 :: TJ6_stringSize_0f7a4_47
def TJ6_stringSize_0f7a4_45 : List UInt8 := 96 :: TJ6_stringSize_0f7a4_46
def TJ6_stringSize_0f7a4_44 : List UInt8 := 27 :: TJ6_stringSize_0f7a4_45
def TJ6_stringSize_0f7a4_42 : List UInt8 := 16 :: 10 :: TJ6_stringSize_0f7a4_44
def TJ6_stringSize_0f7a4_39 : List UInt8 := 167 :: 255 :: 233 :: TJ6_stringSize_0f7a4_42
def TJ6_stringSize_0f7a4_36 : List UInt8 := 132 :: 3 :: 1 :: TJ6_stringSize_0f7a4_39
def TJ6_stringSize_0f7a4_35 : List UInt8 := 61 :: TJ6_stringSize_0f7a4_36
def TJ6_stringSize_0f7a4_34 : List UInt8 := 104 :: TJ6_stringSize_0f7a4_35
def TJ6_stringSize_0f7a4_33 : List UInt8 := 28 :: TJ6_stringSize_0f7a4_34
def TJ6_stringSize_0f7a4_31 : List UInt8 := 16 :: 10 :: TJ6_stringSize_0f7a4_33
def TJ6_stringSize_0f7a4_30 : List UInt8 := 172 :: TJ6_stringSize_0f7a4_31
def TJ6_stringSize_0f7a4_29 : List UInt8 := 96 :: TJ6_stringSize_0f7a4_30
def TJ6_stringSize_0f7a4_28 : List UInt8 := 27 :: TJ6_stringSize_0f7a4_29
def TJ6_stringSize_0f7a4_27 : List UInt8 := 29 :: TJ6_stringSize_0f7a4_28
def TJ6_stringSize_0f7a4_24 : List UInt8 := 164 :: 0 :: 7 :: TJ6_stringSize_0f7a4_27
def TJ6_stringSize_0f7a4_23 : List UInt8 := 28 :: TJ6_stringSize_0f7a4_24
def TJ6_stringSize_0f7a4_22 : List UInt8 := 26 :: TJ6_stringSize_0f7a4_23
def TJ6_stringSize_0f7a4_19 : List UInt8 := 162 :: 0 :: 23 :: TJ6_stringSize_0f7a4_22
def TJ6_stringSize_0f7a4_17 : List UInt8 := 16 :: 10 :: TJ6_stringSize_0f7a4_19
def TJ6_stringSize_0f7a4_16 : List UInt8 := 29 :: TJ6_stringSize_0f7a4_17
def TJ6_stringSize_0f7a4_15 : List UInt8 := 62 :: TJ6_stringSize_0f7a4_16
def TJ6_stringSize_0f7a4_14 : List UInt8 := 4 :: TJ6_stringSize_0f7a4_15
def TJ6_stringSize_0f7a4_13 : List UInt8 := 61 :: TJ6_stringSize_0f7a4_14
def TJ6_stringSize_0f7a4_11 : List UInt8 := 16 :: 246 :: TJ6_stringSize_0f7a4_13
def TJ6_stringSize_0f7a4_10 : List UInt8 := 59 :: TJ6_stringSize_0f7a4_11
def TJ6_stringSize_0f7a4_9 : List UInt8 := 116 :: TJ6_stringSize_0f7a4_10
def TJ6_stringSize_0f7a4_8 : List UInt8 := 26 :: TJ6_stringSize_0f7a4_9
def TJ6_stringSize_0f7a4_7 : List UInt8 := 60 :: TJ6_stringSize_0f7a4_8
def TJ6_stringSize_0f7a4_6 : List UInt8 := 3 :: TJ6_stringSize_0f7a4_7
def TJ6_stringSize_0f7a4_3 : List UInt8 := 155 :: 0 :: 8 :: TJ6_stringSize_0f7a4_6
def TJ6_stringSize_0f7a4_2 : List UInt8 := 26 :: TJ6_stringSize_0f7a4_3
def TJ6_stringSize_0f7a4_1 : List UInt8 := 60 :: TJ6_stringSize_0f7a4_2
def TJ6_stringSize_0f7a4_0 : List UInt8 := 4 :: TJ6_stringSize_0f7a4_1
theorem DJ6_stringSize_0f7a4_0 : cJ6_stringSize_0f7a4.data.toList.drop 0 = TJ6_stringSize_0f7a4_0 := by decide +kernel
theorem DJ6_stringSize_0f7a4_1 : cJ6_stringSize_0f7a4.data.toList.drop 1 = TJ6_stringSize_0f7a4_1 := dr1 DJ6_stringSize_0f7a4_0
theorem DJ6_stringSize_0f7a4_2 : cJ6_stringSize_0f7a4.data.toList.drop 2 = TJ6_stringSize_0f7a4_2 := dr1 DJ6_stringSize_0f7a4_1
theorem DJ6_stringSize_0f7a4_3 : cJ6_stringSize_0f7a4.data.toList.drop 3 = TJ6_stringSize_0f7a4_3 := dr1 DJ6_stringSize_0f7a4_2
theorem DJ6_stringSize_0f7a4_6 : cJ6_stringSize_0f7a4.data.toList.drop 6 = TJ6_stringSize_0f7a4_6 := dr3 DJ6_stringSize_0f7a4_3
theorem DJ6_stringSize_0f7a4_7 : cJ6_stringSize_0f7a4.data.toList.drop 7 = TJ6_stringSize_0f7a4_7 := dr1 DJ6_stringSize_0f7a4_6
theorem DJ6_stringSize_0f7a4_8 : cJ6_stringSize_0f7a4.data.toList.drop 8 = TJ6_stringSize_0f7a4_8 := dr1 DJ6_stringSize_0f7a4_7
theorem DJ6_stringSize_0f7a4_9 : cJ6_stringSize_0f7a4.data.toList.drop 9 = TJ6_stringSize_0f7a4_9 := dr1 DJ6_stringSize_0f7a4_8
theorem DJ6_stringSize_0f7a4_10 : cJ6_stringSize_0f7a4.data.toList.drop 10 = TJ6_stringSize_0f7a4_10 := dr1 DJ6_stringSize_0f7a4_9
theorem DJ6_stringSize_0f7a4_11 : cJ6_stringSize_0f7a4.data.toList.drop 11 = TJ6_stringSize_0f7a4_11 := dr1 DJ6_stringSize_0f7a4_10
theorem DJ6_stringSize_0f7a4_13 : cJ6_stringSize_0f7a4.data.toList.drop 13 = TJ6_stringSize_0f7a4_13 := dr2 DJ6_stringSize_0f7a4_11
theorem DJ6_stringSize_0f7a4_14 : cJ6_stringSize_0f7a4.data.toList.drop 14 = TJ6_stringSize_0f7a4_14 := dr1 DJ6_stringSize_0f7a4_13
theorem DJ6_stringSize_0f7a4_15 : cJ6_stringSize_0f7a4.data.toList.drop 15 = TJ6_stringSize_0f7a4_15 := dr1 DJ6_stringSize_0f7a4_14
theorem DJ6_stringSize_0f7a4_16 : cJ6_stringSize_0f7a4.data.toList.drop 16 = TJ6_stringSize_0f7a4_16 := dr1 DJ6_stringSize_0f7a4_15
theorem DJ6_stringSize_0f7a4_17 : cJ6_stringSize_0f7a4.data.toList.drop 17 = TJ6_stringSize_0f7a4_17 := dr1 DJ6_stringSize_0f7a4_16
theorem DJ6_stringSize_0f7a4_19 : cJ6_stringSize_0f7a4.data.toList.drop 19 = TJ6_stringSize_0f7a4_19 := dr2 DJ6_stringSize_0f7a4_17
theorem DJ6_stringSize_0f7a4_22 : cJ6_stringSize_0f7a4.data.toList.drop 22 = TJ6_stringSize_0f7a4_22 := dr3 DJ6_stringSize_0f7a4_19
theorem DJ6_stringSize_0f7a4_23 : cJ6_stringSize_0f7a4.data.toList.drop 23 = TJ6_stringSize_0f7a4_23 := dr1 DJ6_stringSize_0f7a4_22
theorem DJ6_stringSize_0f7a4_24 : cJ6_stringSize_0f7a4.data.toList.drop 24 = TJ6_stringSize_0f7a4_24 := dr1 DJ6_stringSize_0f7a4_23
theorem DJ6_stringSize_0f7a4_27 : cJ6_stringSize_0f7a4.data.toList.drop 27 = TJ6_stringSize_0f7a4_27 := dr3 DJ6_stringSize_0f7a4_24
theorem DJ6_stringSize_0f7a4_28 : cJ6_stringSize_0f7a4.data.toList.drop 28 = TJ6_stringSize_0f7a4_28 := dr1 DJ6_stringSize_0f7a4_27
theorem DJ6_stringSize_0f7a4_29 : cJ6_stringSize_0f7a4.data.toList.drop 29 = TJ6_stringSize_0f7a4_29 := dr1 DJ6_stringSize_0f7a4_28
theorem DJ6_stringSize_0f7a4_30 : cJ6_stringSize_0f7a4.data.toList.drop 30 = TJ6_stringSize_0f7a4_30 := dr1 DJ6_stringSize_0f7a4_29
theorem DJ6_stringSize_0f7a4_31 : cJ6_stringSize_0f7a4.data.toList.drop 31 = TJ6_stringSize_0f7a4_31 := dr1 DJ6_stringSize_0f7a4_30
theorem DJ6_stringSize_0f7a4_33 : cJ6_stringSize_0f7a4.data.toList.drop 33 = TJ6_stringSize_0f7a4_33 := dr2 DJ6_stringSize_0f7a4_31
theorem DJ6_stringSize_0f7a4_34 : cJ6_stringSize_0f7a4.data.toList.drop 34 = TJ6_stringSize_0f7a4_34 := dr1 DJ6_stringSize_0f7a4_33
theorem DJ6_stringSize_0f7a4_35 : cJ6_stringSize_0f7a4.data.toList.drop 35 = TJ6_stringSize_0f7a4_35 := dr1 DJ6_stringSize_0f7a4_34
theorem DJ6_stringSize_0f7a4_36 : cJ6_stringSize_0f7a4.data.toList.drop 36 = TJ6_stringSize_0f7a4_36 := dr1 DJ6_stringSize_0f7a4_35
theorem DJ6_stringSize_0f7a4_39 : cJ6_stringSize_0f7a4.data.toList.drop 39 = TJ6_stringSize_0f7a4_39 := dr3 DJ6_stringSize_0f7a4_36
theorem DJ6_stringSize_0f7a4_42 : cJ6_stringSize_0f7a4.data.toList.drop 42 = TJ6_stringSize_0f7a4_42 := dr3 DJ6_stringSize_0f7a4_39
theorem DJ6_stringSize_0f7a4_44 : cJ6_stringSize_0f7a4.data.toList.drop 44 = TJ6_stringSize_0f7a4_44 := dr2 DJ6_stringSize_0f7a4_42
theorem DJ6_stringSize_0f7a4_45 : cJ6_stringSize_0f7a4.data.toList.drop 45 = TJ6_stringSize_0f7a4_45 := dr1 DJ6_stringSize_0f7a4_44
theorem DJ6_stringSize_0f7a4_46 : cJ6_stringSize_0f7a4.data.toList.drop 46 = TJ6_stringSize_0f7a4_46 := dr1 DJ6_stringSize_0f7a4_45
theorem dJ6_stringSize_0f7a4_0 : decode cJ6_stringSize_0f7a4 0 = .ok (.iconst 1, 1) := do_04 DJ6_stringSize_0f7a4_0
theorem dJ6_stringSize_0f7a4_1 : decode cJ6_stringSize_0f7a4 1 = .ok (.istore_n 1, 1) := do_3c DJ6_stringSize_0f7a4_1
theorem dJ6_stringSize_0f7a4_2 : decode cJ6_stringSize_0f7a4 2 = .ok (.iload_n 0, 1) := do_1a DJ6_stringSize_0f7a4_2
theorem dJ6_stringSize_0f7a4_3 : decode cJ6_stringSize_0f7a4 3 = .ok (.ifCond .lt 8, 3) := do_9b DJ6_stringSize_0f7a4_3 (by decide +kernel)
theorem dJ6_stringSize_0f7a4_6 : decode cJ6_stringSize_0f7a4 6 = .ok (.iconst 0, 1) := do_03 DJ6_stringSize_0f7a4_6
theorem dJ6_stringSize_0f7a4_7 : decode cJ6_stringSize_0f7a4 7 = .ok (.istore_n 1, 1) := do_3c DJ6_stringSize_0f7a4_7
theorem dJ6_stringSize_0f7a4_8 : decode cJ6_stringSize_0f7a4 8 = .ok (.iload_n 0, 1) := do_1a DJ6_stringSize_0f7a4_8
theorem dJ6_stringSize_0f7a4_9 : decode cJ6_stringSize_0f7a4 9 = .ok (.ineg, 1) := do_74 DJ6_stringSize_0f7a4_9
theorem dJ6_stringSize_0f7a4_10 : decode cJ6_stringSize_0f7a4 10 = .ok (.istore_n 0, 1) := do_3b DJ6_stringSize_0f7a4_10
theorem dJ6_stringSize_0f7a4_11 : decode cJ6_stringSize_0f7a4 11 = .ok (.bipush (-10), 2) := do_10 DJ6_stringSize_0f7a4_11 (by decide +kernel)
theorem dJ6_stringSize_0f7a4_13 : decode cJ6_stringSize_0f7a4 13 = .ok (.istore_n 2, 1) := do_3d DJ6_stringSize_0f7a4_13
theorem dJ6_stringSize_0f7a4_14 : decode cJ6_stringSize_0f7a4 14 = .ok (.iconst 1, 1) := do_04 DJ6_stringSize_0f7a4_14
theorem dJ6_stringSize_0f7a4_15 : decode cJ6_stringSize_0f7a4 15 = .ok (.istore_n 3, 1) := do_3e DJ6_stringSize_0f7a4_15
theorem dJ6_stringSize_0f7a4_16 : decode cJ6_stringSize_0f7a4 16 = .ok (.iload_n 3, 1) := do_1d DJ6_stringSize_0f7a4_16
theorem dJ6_stringSize_0f7a4_17 : decode cJ6_stringSize_0f7a4 17 = .ok (.bipush 10, 2) := do_10 DJ6_stringSize_0f7a4_17 (by decide +kernel)
theorem dJ6_stringSize_0f7a4_19 : decode cJ6_stringSize_0f7a4 19 = .ok (.if_icmp .ge 23, 3) := do_a2 DJ6_stringSize_0f7a4_19 (by decide +kernel)
theorem dJ6_stringSize_0f7a4_22 : decode cJ6_stringSize_0f7a4 22 = .ok (.iload_n 0, 1) := do_1a DJ6_stringSize_0f7a4_22
theorem dJ6_stringSize_0f7a4_23 : decode cJ6_stringSize_0f7a4 23 = .ok (.iload_n 2, 1) := do_1c DJ6_stringSize_0f7a4_23
theorem dJ6_stringSize_0f7a4_24 : decode cJ6_stringSize_0f7a4 24 = .ok (.if_icmp .le 7, 3) := do_a4 DJ6_stringSize_0f7a4_24 (by decide +kernel)
theorem dJ6_stringSize_0f7a4_27 : decode cJ6_stringSize_0f7a4 27 = .ok (.iload_n 3, 1) := do_1d DJ6_stringSize_0f7a4_27
theorem dJ6_stringSize_0f7a4_28 : decode cJ6_stringSize_0f7a4 28 = .ok (.iload_n 1, 1) := do_1b DJ6_stringSize_0f7a4_28
theorem dJ6_stringSize_0f7a4_29 : decode cJ6_stringSize_0f7a4 29 = .ok (.iadd, 1) := do_60 DJ6_stringSize_0f7a4_29
theorem dJ6_stringSize_0f7a4_30 : decode cJ6_stringSize_0f7a4 30 = .ok (.ireturn, 1) := do_ac DJ6_stringSize_0f7a4_30
theorem dJ6_stringSize_0f7a4_31 : decode cJ6_stringSize_0f7a4 31 = .ok (.bipush 10, 2) := do_10 DJ6_stringSize_0f7a4_31 (by decide +kernel)
theorem dJ6_stringSize_0f7a4_33 : decode cJ6_stringSize_0f7a4 33 = .ok (.iload_n 2, 1) := do_1c DJ6_stringSize_0f7a4_33
theorem dJ6_stringSize_0f7a4_34 : decode cJ6_stringSize_0f7a4 34 = .ok (.imul, 1) := do_68 DJ6_stringSize_0f7a4_34
theorem dJ6_stringSize_0f7a4_35 : decode cJ6_stringSize_0f7a4 35 = .ok (.istore_n 2, 1) := do_3d DJ6_stringSize_0f7a4_35
theorem dJ6_stringSize_0f7a4_36 : decode cJ6_stringSize_0f7a4 36 = .ok (.iinc 3 1, 3) := do_84 DJ6_stringSize_0f7a4_36
theorem dJ6_stringSize_0f7a4_39 : decode cJ6_stringSize_0f7a4 39 = .ok (.goto (-23), 3) := do_a7 DJ6_stringSize_0f7a4_39 (by decide +kernel)
theorem dJ6_stringSize_0f7a4_42 : decode cJ6_stringSize_0f7a4 42 = .ok (.bipush 10, 2) := do_10 DJ6_stringSize_0f7a4_42 (by decide +kernel)
theorem dJ6_stringSize_0f7a4_44 : decode cJ6_stringSize_0f7a4 44 = .ok (.iload_n 1, 1) := do_1b DJ6_stringSize_0f7a4_44
theorem dJ6_stringSize_0f7a4_45 : decode cJ6_stringSize_0f7a4 45 = .ok (.iadd, 1) := do_60 DJ6_stringSize_0f7a4_45
theorem dJ6_stringSize_0f7a4_46 : decode cJ6_stringSize_0f7a4 46 = .ok (.ireturn, 1) := do_ac DJ6_stringSize_0f7a4_46
def TJ6_numberOfLeadingZeros_0f7a4_79 : List UInt8 := []
def TJ6_numberOfLeadingZeros_0f7a4_78 : List UInt8 := 172 :: TJ6_numberOfLeadingZeros_0f7a4_79
def TJ6_numberOfLeadingZeros_0f7a4_77 : List UInt8 := 100 :: TJ6_numberOfLeadingZeros_0f7a4_78
def TJ6_numberOfLeadingZeros_0f7a4_76 : List UInt8 := 124 :: TJ6_numberOfLeadingZeros_0f7a4_77
def TJ6_numberOfLeadingZeros_0f7a4_75 : List UInt8 := 4 :: TJ6_numberOfLeadingZeros_0f7a4_76
def TJ6_numberOfLeadingZeros_0f7a4_74 : List UInt8 := 26 :: TJ6_numberOfLeadingZeros_0f7a4_75
def TJ6_numberOfLeadingZeros_0f7a4_73 : List UInt8 := 27 :: TJ6_numberOfLeadingZeros_0f7a4_74
def TJ6_numberOfLeadingZeros_0f7a4_72 : List UInt8 := 59 :: TJ6_numberOfLeadingZeros_0f7a4_73
def TJ6_numberOfLeadingZeros_0f7a4_71 : List UInt8 := 124 :: TJ6_numberOfLeadingZeros_0f7a4_72
def TJ6_numberOfLeadingZeros_0f7a4_70 : List UInt8 := 5 :: TJ6_numberOfLeadingZeros_0f7a4_71
def TJ6_numberOfLeadingZeros_0f7a4_69 : List UInt8 := 26 :: TJ6_numberOfLeadingZeros_0f7a4_70
def TJ6_numberOfLeadingZeros_0f7a4_66 : List UInt8 := 132 :: 1 :: 254 :: TJ6_numberOfLeadingZeros_0f7a4_69
def TJ6_numberOfLeadingZeros_0f7a4_63 : List UInt8 := 161 :: 0 :: 10 :: TJ6_numberOfLeadingZeros_0f7a4_66
def TJ6_numberOfLeadingZeros_0f7a4_62 : List UInt8 := 7 :: TJ6_numberOfLeadingZeros_0f7a4_63
def TJ6_numberOfLeadingZeros_0f7a4_61 : List UInt8 := 26 :: TJ6_numberOfLeadingZeros_0f7a4_62
def TJ6_numberOfLeadingZeros_0f7a4_60 : List UInt8 := 59 :: TJ6_numberOfLeadingZeros_0f7a4_61
def TJ6_numberOfLeadingZeros_0f7a4_59 : List UInt8 := 124 :: TJ6_numberOfLeadingZeros_0f7a4_60
def TJ6_numberOfLeadingZeros_0f7a4_58 : List UInt8 := 7 :: TJ6_numberOfLeadingZeros_0f7a4_59
def TJ6_numberOfLeadingZeros_0f7a4_57 : List UInt8 := 26 :: TJ6_numberOfLeadingZeros_0f7a4_58
def TJ6_numberOfLeadingZeros_0f7a4_54 : List UInt8 := 132 :: 1 :: 252 :: TJ6_numberOfLeadingZeros_0f7a4_57
def TJ6_numberOfLeadingZeros_0f7a4_51 : List UInt8 := 161 :: 0 :: 10 :: TJ6_numberOfLeadingZeros_0f7a4_54
def TJ6_numberOfLeadingZeros_0f7a4_49 : List UInt8 := 16 :: 16 :: TJ6_numberOfLeadingZeros_0f7a4_51
def TJ6_numberOfLeadingZeros_0f7a4_48 : List UInt8 := 26 :: TJ6_numberOfLeadingZeros_0f7a4_49
def TJ6_numberOfLeadingZeros_0f7a4_47 : List UInt8 := 59 :: TJ6_numberOfLeadingZeros_0f7a4_48
def TJ6_numberOfLeadingZeros_0f7a4_46 : List UInt8 := 124 :: TJ6_numberOfLeadingZeros_0f7a4_47
def TJ6_numberOfLeadingZeros_0f7a4_44 : List UInt8 := 16 :: 8 :: TJ6_numberOfLeadingZeros_0f7a4_46
def TJ6_numberOfLeadingZeros_0f7a4_43 : List UInt8 := 26 :: TJ6_numberOfLeadingZeros_0f7a4_44
def TJ6_numberOfLeadingZeros_0f7a4_40 : List UInt8 := 132 :: 1 :: 248 :: TJ6_numberOfLeadingZeros_0f7a4_43
def TJ6_numberOfLeadingZeros_0f7a4_37 : List UInt8 := 161 :: 0 :: 11 :: TJ6_numberOfLeadingZeros_0f7a4_40
def TJ6_numberOfLeadingZeros_0f7a4_34 : List UInt8 := 17 :: 1 :: 0 :: TJ6_numberOfLeadingZeros_0f7a4_37
def TJ6_numberOfLeadingZeros_0f7a4_33 : List UInt8 := 26 :: TJ6_numberOfLeadingZeros_0f7a4_34
def TJ6_numberOfLeadingZeros_0f7a4_32 : List UInt8 := 59 :: TJ6_numberOfLeadingZeros_0f7a4_33
def TJ6_numberOfLeadingZeros_0f7a4_31 : List UInt8 := 124 :: TJ6_numberOfLeadingZeros_0f7a4_32
def TJ6_numberOfLeadingZeros_0f7a4_29 : List UInt8 := 16 :: 16 :: TJ6_numberOfLeadingZeros_0f7a4_31
def TJ6_numberOfLeadingZeros_0f7a4_28 : List UInt8 := 26 :: TJ6_numberOfLeadingZeros_0f7a4_29
def TJ6_numberOfLeadingZeros_0f7a4_25 : List UInt8 := 132 :: 1 :: 240 :: TJ6_numberOfLeadingZeros_0f7a4_28
def TJ6_numberOfLeadingZeros_0f7a4_22 : List UInt8 := 161 :: 0 :: 11 :: TJ6_numberOfLeadingZeros_0f7a4_25
def TJ6_numberOfLeadingZeros_0f7a4_19 : List UInt8 := 19 :: 1 :: 8 :: TJ6_numberOfLeadingZeros_0f7a4_22
def TJ6_numberOfLeadingZeros_0f7a4_18 : List UInt8 := 26 :: TJ6_numberOfLeadingZeros_0f7a4_19
def TJ6_numberOfLeadingZeros_0f7a4_17 : List UInt8 := 60 :: TJ6_numberOfLeadingZeros_0f7a4_18
def TJ6_numberOfLeadingZeros_0f7a4_15 : List UInt8 := 16 :: 31 :: TJ6_numberOfLeadingZeros_0f7a4_17
def TJ6_numberOfLeadingZeros_0f7a4_14 : List UInt8 := 172 :: TJ6_numberOfLeadingZeros_0f7a4_15
def TJ6_numberOfLeadingZeros_0f7a4_13 : List UInt8 := 3 :: TJ6_numberOfLeadingZeros_0f7a4_14
def TJ6_numberOfLeadingZeros_0f7a4_10 : List UInt8 := 167 :: 0 :: 4 :: TJ6_numberOfLeadingZeros_0f7a4_13
def TJ6_numberOfLeadingZeros_0f7a4_8 : List UInt8 := 16 :: 32 :: TJ6_numberOfLeadingZeros_0f7a4_10
def TJ6_numberOfLeadingZeros_0f7a4_5 : List UInt8 := 154 :: 0 :: 8 :: TJ6_numberOfLeadingZeros_0f7a4_8
def TJ6_numberOfLeadingZeros_0f7a4_4 : List UInt8 := 26 :: TJ6_numberOfLeadingZeros_0f7a4_5
def TJ6_numberOfLeadingZeros_0f7a4_1 : List UInt8 := 157 :: 0 :: 14 :: TJ6_numberOfLeadingZeros_0f7a4_4
def TJ6_numberOfLeadingZeros_0f7a4_0 : List UInt8 := 26 :: TJ6_numberOfLeadingZeros_0f7a4_1
theorem DJ6_numberOfLeadingZeros_0f7a4_0 : cJ6_numberOfLeadingZeros_0f7a4.data.toList.drop 0 = TJ6_numberOfLeadingZeros_0f7a4_0 := by decide +kernel
theorem DJ6_numberOfLeadingZeros_0f7a4_1 : cJ6_numberOfLeadingZeros_0f7a4.data.toList.drop 1 = TJ6_numberOfLeadingZeros_0f7a4_1 := dr1 DJ6_numberOfLeadingZeros_0f7a4_0
theorem DJ6_numberOfLeadingZeros_0f7a4_4 : cJ6_numberOfLeadingZeros_0f7a4.data.toList.drop 4 = TJ6_numberOfLeadingZeros_0f7a4_4 := dr3 DJ6_numberOfLeadingZeros_0f7a4_1
theorem DJ6_numberOfLeadingZeros_0f7a4_5 : cJ6_numberOfLeadingZeros_0f7a4.data.toList.drop 5 = TJ6_numberOfLeadingZeros_0f7a4_5 := dr1 DJ6_numberOfLeadingZeros_0f7a4_4
theorem DJ6_numberOfLeadingZeros_0f7a4_8 : cJ6_numberOfLeadingZeros_0f7a4.data.toList.drop 8 = TJ6_numberOfLeadingZeros_0f7a4_8 := dr3 DJ6_numberOfLeadingZeros_0f7a4_5
theorem DJ6_numberOfLeadingZeros_0f7a4_10 : cJ6_numberOfLeadingZeros_0f7a4.data.toList.drop 10 = TJ6_numberOfLeadingZeros_0f7a4_10 := dr2 DJ6_numberOfLeadingZeros_0f7a4_8
theorem DJ6_numberOfLeadingZeros_0f7a4_13 : cJ6_numberOfLeadingZeros_0f7a4.data.toList.drop 13 = TJ6_numberOfLeadingZeros_0f7a4_13 := dr3 DJ6_numberOfLeadingZeros_0f7a4_10
theorem DJ6_numberOfLeadingZeros_0f7a4_14 : cJ6_numberOfLeadingZeros_0f7a4.data.toList.drop 14 = TJ6_numberOfLeadingZeros_0f7a4_14 := dr1 DJ6_numberOfLeadingZeros_0f7a4_13
theorem DJ6_numberOfLeadingZeros_0f7a4_15 : cJ6_numberOfLeadingZeros_0f7a4.data.toList.drop 15 = TJ6_numberOfLeadingZeros_0f7a4_15 := dr1 DJ6_numberOfLeadingZeros_0f7a4_14
theorem DJ6_numberOfLeadingZeros_0f7a4_17 : cJ6_numberOfLeadingZeros_0f7a4.data.toList.drop 17 = TJ6_numberOfLeadingZeros_0f7a4_17 := dr2 DJ6_numberOfLeadingZeros_0f7a4_15
theorem DJ6_numberOfLeadingZeros_0f7a4_18 : cJ6_numberOfLeadingZeros_0f7a4.data.toList.drop 18 = TJ6_numberOfLeadingZeros_0f7a4_18 := dr1 DJ6_numberOfLeadingZeros_0f7a4_17
theorem DJ6_numberOfLeadingZeros_0f7a4_19 : cJ6_numberOfLeadingZeros_0f7a4.data.toList.drop 19 = TJ6_numberOfLeadingZeros_0f7a4_19 := dr1 DJ6_numberOfLeadingZeros_0f7a4_18
theorem DJ6_numberOfLeadingZeros_0f7a4_22 : cJ6_numberOfLeadingZeros_0f7a4.data.toList.drop 22 = TJ6_numberOfLeadingZeros_0f7a4_22 := dr3 DJ6_numberOfLeadingZeros_0f7a4_19
theorem DJ6_numberOfLeadingZeros_0f7a4_25 : cJ6_numberOfLeadingZeros_0f7a4.data.toList.drop 25 = TJ6_numberOfLeadingZeros_0f7a4_25 := dr3 DJ6_numberOfLeadingZeros_0f7a4_22
theorem DJ6_numberOfLeadingZeros_0f7a4_28 : cJ6_numberOfLeadingZeros_0f7a4.data.toList.drop 28 = TJ6_numberOfLeadingZeros_0f7a4_28 := dr3 DJ6_numberOfLeadingZeros_0f7a4_25
theorem DJ6_numberOfLeadingZeros_0f7a4_29 : cJ6_numberOfLeadingZeros_0f7a4.data.toList.drop 29 = TJ6_numberOfLeadingZeros_0f7a4_29 := dr1 DJ6_numberOfLeadingZeros_0f7a4_28
theorem DJ6_numberOfLeadingZeros_0f7a4_31 : cJ6_numberOfLeadingZeros_0f7a4.data.toList.drop 31 = TJ6_numberOfLeadingZeros_0f7a4_31 := dr2 DJ6_numberOfLeadingZeros_0f7a4_29
theorem DJ6_numberOfLeadingZeros_0f7a4_32 : cJ6_numberOfLeadingZeros_0f7a4.data.toList.drop 32 = TJ6_numberOfLeadingZeros_0f7a4_32 := dr1 DJ6_numberOfLeadingZeros_0f7a4_31
theorem DJ6_numberOfLeadingZeros_0f7a4_33 : cJ6_numberOfLeadingZeros_0f7a4.data.toList.drop 33 = TJ6_numberOfLeadingZeros_0f7a4_33 := dr1 DJ6_numberOfLeadingZeros_0f7a4_32
theorem DJ6_numberOfLeadingZeros_0f7a4_34 : cJ6_numberOfLeadingZeros_0f7a4.data.toList.drop 34 = TJ6_numberOfLeadingZeros_0f7a4_34 := dr1 DJ6_numberOfLeadingZeros_0f7a4_33
theorem DJ6_numberOfLeadingZeros_0f7a4_37 : cJ6_numberOfLeadingZeros_0f7a4.data.toList.drop 37 = TJ6_numberOfLeadingZeros_0f7a4_37 := dr3 DJ6_numberOfLeadingZeros_0f7a4_34
theorem DJ6_numberOfLeadingZeros_0f7a4_40 : cJ6_numberOfLeadingZeros_0f7a4.data.toList.drop 40 = TJ6_numberOfLeadingZeros_0f7a4_40 := dr3 DJ6_numberOfLeadingZeros_0f7a4_37
theorem DJ6_numberOfLeadingZeros_0f7a4_43 : cJ6_numberOfLeadingZeros_0f7a4.data.toList.drop 43 = TJ6_numberOfLeadingZeros_0f7a4_43 := dr3 DJ6_numberOfLeadingZeros_0f7a4_40
theorem DJ6_numberOfLeadingZeros_0f7a4_44 : cJ6_numberOfLeadingZeros_0f7a4.data.toList.drop 44 = TJ6_numberOfLeadingZeros_0f7a4_44 := dr1 DJ6_numberOfLeadingZeros_0f7a4_43
theorem DJ6_numberOfLeadingZeros_0f7a4_46 : cJ6_numberOfLeadingZeros_0f7a4.data.toList.drop 46 = TJ6_numberOfLeadingZeros_0f7a4_46 := dr2 DJ6_numberOfLeadingZeros_0f7a4_44
theorem DJ6_numberOfLeadingZeros_0f7a4_47 : cJ6_numberOfLeadingZeros_0f7a4.data.toList.drop 47 = TJ6_numberOfLeadingZeros_0f7a4_47 := dr1 DJ6_numberOfLeadingZeros_0f7a4_46
theorem DJ6_numberOfLeadingZeros_0f7a4_48 : cJ6_numberOfLeadingZeros_0f7a4.data.toList.drop 48 = TJ6_numberOfLeadingZeros_0f7a4_48 := dr1 DJ6_numberOfLeadingZeros_0f7a4_47
theorem DJ6_numberOfLeadingZeros_0f7a4_49 : cJ6_numberOfLeadingZeros_0f7a4.data.toList.drop 49 = TJ6_numberOfLeadingZeros_0f7a4_49 := dr1 DJ6_numberOfLeadingZeros_0f7a4_48
theorem DJ6_numberOfLeadingZeros_0f7a4_51 : cJ6_numberOfLeadingZeros_0f7a4.data.toList.drop 51 = TJ6_numberOfLeadingZeros_0f7a4_51 := dr2 DJ6_numberOfLeadingZeros_0f7a4_49
theorem DJ6_numberOfLeadingZeros_0f7a4_54 : cJ6_numberOfLeadingZeros_0f7a4.data.toList.drop 54 = TJ6_numberOfLeadingZeros_0f7a4_54 := dr3 DJ6_numberOfLeadingZeros_0f7a4_51
theorem DJ6_numberOfLeadingZeros_0f7a4_57 : cJ6_numberOfLeadingZeros_0f7a4.data.toList.drop 57 = TJ6_numberOfLeadingZeros_0f7a4_57 := dr3 DJ6_numberOfLeadingZeros_0f7a4_54
theorem DJ6_numberOfLeadingZeros_0f7a4_58 : cJ6_numberOfLeadingZeros_0f7a4.data.toList.drop 58 = TJ6_numberOfLeadingZeros_0f7a4_58 := dr1 DJ6_numberOfLeadingZeros_0f7a4_57
theorem DJ6_numberOfLeadingZeros_0f7a4_59 : cJ6_numberOfLeadingZeros_0f7a4.data.toList.drop 59 = TJ6_numberOfLeadingZeros_0f7a4_59 := dr1 DJ6_numberOfLeadingZeros_0f7a4_58
theorem DJ6_numberOfLeadingZeros_0f7a4_60 : cJ6_numberOfLeadingZeros_0f7a4.data.toList.drop 60 = TJ6_numberOfLeadingZeros_0f7a4_60 := dr1 DJ6_numberOfLeadingZeros_0f7a4_59
theorem DJ6_numberOfLeadingZeros_0f7a4_61 : cJ6_numberOfLeadingZeros_0f7a4.data.toList.drop 61 = TJ6_numberOfLeadingZeros_0f7a4_61 := dr1 DJ6_numberOfLeadingZeros_0f7a4_60
theorem DJ6_numberOfLeadingZeros_0f7a4_62 : cJ6_numberOfLeadingZeros_0f7a4.data.toList.drop 62 = TJ6_numberOfLeadingZeros_0f7a4_62 := dr1 DJ6_numberOfLeadingZeros_0f7a4_61
theorem DJ6_numberOfLeadingZeros_0f7a4_63 : cJ6_numberOfLeadingZeros_0f7a4.data.toList.drop 63 = TJ6_numberOfLeadingZeros_0f7a4_63 := dr1 DJ6_numberOfLeadingZeros_0f7a4_62
theorem DJ6_numberOfLeadingZeros_0f7a4_66 : cJ6_numberOfLeadingZeros_0f7a4.data.toList.drop 66 = TJ6_numberOfLeadingZeros_0f7a4_66 := dr3 DJ6_numberOfLeadingZeros_0f7a4_63
theorem DJ6_numberOfLeadingZeros_0f7a4_69 : cJ6_numberOfLeadingZeros_0f7a4.data.toList.drop 69 = TJ6_numberOfLeadingZeros_0f7a4_69 := dr3 DJ6_numberOfLeadingZeros_0f7a4_66
theorem DJ6_numberOfLeadingZeros_0f7a4_70 : cJ6_numberOfLeadingZeros_0f7a4.data.toList.drop 70 = TJ6_numberOfLeadingZeros_0f7a4_70 := dr1 DJ6_numberOfLeadingZeros_0f7a4_69
theorem DJ6_numberOfLeadingZeros_0f7a4_71 : cJ6_numberOfLeadingZeros_0f7a4.data.toList.drop 71 = TJ6_numberOfLeadingZeros_0f7a4_71 := dr1 DJ6_numberOfLeadingZeros_0f7a4_70
theorem DJ6_numberOfLeadingZeros_0f7a4_72 : cJ6_numberOfLeadingZeros_0f7a4.data.toList.drop 72 = TJ6_numberOfLeadingZeros_0f7a4_72 := dr1 DJ6_numberOfLeadingZeros_0f7a4_71
theorem DJ6_numberOfLeadingZeros_0f7a4_73 : cJ6_numberOfLeadingZeros_0f7a4.data.toList.drop 73 = TJ6_numberOfLeadingZeros_0f7a4_73 := dr1 DJ6_numberOfLeadingZeros_0f7a4_72
theorem DJ6_numberOfLeadingZeros_0f7a4_74 : cJ6_numberOfLeadingZeros_0f7a4.data.toList.drop 74 = TJ6_numberOfLeadingZeros_0f7a4_74 := dr1 DJ6_numberOfLeadingZeros_0f7a4_73
theorem DJ6_numberOfLeadingZeros_0f7a4_75 : cJ6_numberOfLeadingZeros_0f7a4.data.toList.drop 75 = TJ6_numberOfLeadingZeros_0f7a4_75 := dr1 DJ6_numberOfLeadingZeros_0f7a4_74
theorem DJ6_numberOfLeadingZeros_0f7a4_76 : cJ6_numberOfLeadingZeros_0f7a4.data.toList.drop 76 = TJ6_numberOfLeadingZeros_0f7a4_76 := dr1 DJ6_numberOfLeadingZeros_0f7a4_75
theorem DJ6_numberOfLeadingZeros_0f7a4_77 : cJ6_numberOfLeadingZeros_0f7a4.data.toList.drop 77 = TJ6_numberOfLeadingZeros_0f7a4_77 := dr1 DJ6_numberOfLeadingZeros_0f7a4_76
theorem DJ6_numberOfLeadingZeros_0f7a4_78 : cJ6_numberOfLeadingZeros_0f7a4.data.toList.drop 78 = TJ6_numberOfLeadingZeros_0f7a4_78 := dr1 DJ6_numberOfLeadingZeros_0f7a4_77
theorem dJ6_numberOfLeadingZeros_0f7a4_0 : decode cJ6_numberOfLeadingZeros_0f7a4 0 = .ok (.iload_n 0, 1) := do_1a DJ6_numberOfLeadingZeros_0f7a4_0
theorem dJ6_numberOfLeadingZeros_0f7a4_1 : decode cJ6_numberOfLeadingZeros_0f7a4 1 = .ok (.ifCond .gt 14, 3) := do_9d DJ6_numberOfLeadingZeros_0f7a4_1 (by decide +kernel)
theorem dJ6_numberOfLeadingZeros_0f7a4_4 : decode cJ6_numberOfLeadingZeros_0f7a4 4 = .ok (.iload_n 0, 1) := do_1a DJ6_numberOfLeadingZeros_0f7a4_4
theorem dJ6_numberOfLeadingZeros_0f7a4_5 : decode cJ6_numberOfLeadingZeros_0f7a4 5 = .ok (.ifCond .ne 8, 3) := do_9a DJ6_numberOfLeadingZeros_0f7a4_5 (by decide +kernel)
theorem dJ6_numberOfLeadingZeros_0f7a4_8 : decode cJ6_numberOfLeadingZeros_0f7a4 8 = .ok (.bipush 32, 2) := do_10 DJ6_numberOfLeadingZeros_0f7a4_8 (by decide +kernel)
theorem dJ6_numberOfLeadingZeros_0f7a4_10 : decode cJ6_numberOfLeadingZeros_0f7a4 10 = .ok (.goto 4, 3) := do_a7 DJ6_numberOfLeadingZeros_0f7a4_10 (by decide +kernel)
theorem dJ6_numberOfLeadingZeros_0f7a4_13 : decode cJ6_numberOfLeadingZeros_0f7a4 13 = .ok (.iconst 0, 1) := do_03 DJ6_numberOfLeadingZeros_0f7a4_13
theorem dJ6_numberOfLeadingZeros_0f7a4_14 : decode cJ6_numberOfLeadingZeros_0f7a4 14 = .ok (.ireturn, 1) := do_ac DJ6_numberOfLeadingZeros_0f7a4_14
theorem dJ6_numberOfLeadingZeros_0f7a4_15 : decode cJ6_numberOfLeadingZeros_0f7a4 15 = .ok (.bipush 31, 2) := do_10 DJ6_numberOfLeadingZeros_0f7a4_15 (by decide +kernel)
theorem dJ6_numberOfLeadingZeros_0f7a4_17 : decode cJ6_numberOfLeadingZeros_0f7a4 17 = .ok (.istore_n 1, 1) := do_3c DJ6_numberOfLeadingZeros_0f7a4_17
theorem dJ6_numberOfLeadingZeros_0f7a4_18 : decode cJ6_numberOfLeadingZeros_0f7a4 18 = .ok (.iload_n 0, 1) := do_1a DJ6_numberOfLeadingZeros_0f7a4_18
theorem dJ6_numberOfLeadingZeros_0f7a4_19 : decode cJ6_numberOfLeadingZeros_0f7a4 19 = .ok (.ldc_w 264, 3) := do_13 DJ6_numberOfLeadingZeros_0f7a4_19
theorem dJ6_numberOfLeadingZeros_0f7a4_22 : decode cJ6_numberOfLeadingZeros_0f7a4 22 = .ok (.if_icmp .lt 11, 3) := do_a1 DJ6_numberOfLeadingZeros_0f7a4_22 (by decide +kernel)
theorem dJ6_numberOfLeadingZeros_0f7a4_25 : decode cJ6_numberOfLeadingZeros_0f7a4 25 = .ok (.iinc 1 (-16), 3) := do_84 DJ6_numberOfLeadingZeros_0f7a4_25
theorem dJ6_numberOfLeadingZeros_0f7a4_28 : decode cJ6_numberOfLeadingZeros_0f7a4 28 = .ok (.iload_n 0, 1) := do_1a DJ6_numberOfLeadingZeros_0f7a4_28
theorem dJ6_numberOfLeadingZeros_0f7a4_29 : decode cJ6_numberOfLeadingZeros_0f7a4 29 = .ok (.bipush 16, 2) := do_10 DJ6_numberOfLeadingZeros_0f7a4_29 (by decide +kernel)
theorem dJ6_numberOfLeadingZeros_0f7a4_31 : decode cJ6_numberOfLeadingZeros_0f7a4 31 = .ok (.iushr, 1) := do_7c DJ6_numberOfLeadingZeros_0f7a4_31
theorem dJ6_numberOfLeadingZeros_0f7a4_32 : decode cJ6_numberOfLeadingZeros_0f7a4 32 = .ok (.istore_n 0, 1) := do_3b DJ6_numberOfLeadingZeros_0f7a4_32
theorem dJ6_numberOfLeadingZeros_0f7a4_33 : decode cJ6_numberOfLeadingZeros_0f7a4 33 = .ok (.iload_n 0, 1) := do_1a DJ6_numberOfLeadingZeros_0f7a4_33
theorem dJ6_numberOfLeadingZeros_0f7a4_34 : decode cJ6_numberOfLeadingZeros_0f7a4 34 = .ok (.sipush 256, 3) := do_11 DJ6_numberOfLeadingZeros_0f7a4_34 (by decide +kernel)
theorem dJ6_numberOfLeadingZeros_0f7a4_37 : decode cJ6_numberOfLeadingZeros_0f7a4 37 = .ok (.if_icmp .lt 11, 3) := do_a1 DJ6_numberOfLeadingZeros_0f7a4_37 (by decide +kernel)
theorem dJ6_numberOfLeadingZeros_0f7a4_40 : decode cJ6_numberOfLeadingZeros_0f7a4 40 = .ok (.iinc 1 (-8), 3) := do_84 DJ6_numberOfLeadingZeros_0f7a4_40
theorem dJ6_numberOfLeadingZeros_0f7a4_43 : decode cJ6_numberOfLeadingZeros_0f7a4 43 = .ok (.iload_n 0, 1) := do_1a DJ6_numberOfLeadingZeros_0f7a4_43
theorem dJ6_numberOfLeadingZeros_0f7a4_44 : decode cJ6_numberOfLeadingZeros_0f7a4 44 = .ok (.bipush 8, 2) := do_10 DJ6_numberOfLeadingZeros_0f7a4_44 (by decide +kernel)
theorem dJ6_numberOfLeadingZeros_0f7a4_46 : decode cJ6_numberOfLeadingZeros_0f7a4 46 = .ok (.iushr, 1) := do_7c DJ6_numberOfLeadingZeros_0f7a4_46
theorem dJ6_numberOfLeadingZeros_0f7a4_47 : decode cJ6_numberOfLeadingZeros_0f7a4 47 = .ok (.istore_n 0, 1) := do_3b DJ6_numberOfLeadingZeros_0f7a4_47
theorem dJ6_numberOfLeadingZeros_0f7a4_48 : decode cJ6_numberOfLeadingZeros_0f7a4 48 = .ok (.iload_n 0, 1) := do_1a DJ6_numberOfLeadingZeros_0f7a4_48
theorem dJ6_numberOfLeadingZeros_0f7a4_49 : decode cJ6_numberOfLeadingZeros_0f7a4 49 = .ok (.bipush 16, 2) := do_10 DJ6_numberOfLeadingZeros_0f7a4_49 (by decide +kernel)
theorem dJ6_numberOfLeadingZeros_0f7a4_51 : decode cJ6_numberOfLeadingZeros_0f7a4 51 = .ok (.if_icmp .lt 10, 3) := do_a1 DJ6_numberOfLeadingZeros_0f7a4_51 (by decide +kernel)
theorem dJ6_numberOfLeadingZeros_0f7a4_54 : decode cJ6_numberOfLeadingZeros_0f7a4 54 = .ok (.iinc 1 (-4), 3) := do_84 DJ6_numberOfLeadingZeros_0f7a4_54
theorem dJ6_numberOfLeadingZeros_0f7a4_57 : decode cJ6_numberOfLeadingZeros_0f7a4 57 = .ok (.iload_n 0, 1) := do_1a DJ6_numberOfLeadingZeros_0f7a4_57
theorem dJ6_numberOfLeadingZeros_0f7a4_58 : decode cJ6_numberOfLeadingZeros_0f7a4 58 = .ok (.iconst 4, 1) := do_07 DJ6_numberOfLeadingZeros_0f7a4_58
theorem dJ6_numberOfLeadingZeros_0f7a4_59 : decode cJ6_numberOfLeadingZeros_0f7a4 59 = .ok (.iushr, 1) := do_7c DJ6_numberOfLeadingZeros_0f7a4_59
theorem dJ6_numberOfLeadingZeros_0f7a4_60 : decode cJ6_numberOfLeadingZeros_0f7a4 60 = .ok (.istore_n 0, 1) := do_3b DJ6_numberOfLeadingZeros_0f7a4_60
theorem dJ6_numberOfLeadingZeros_0f7a4_61 : decode cJ6_numberOfLeadingZeros_0f7a4 61 = .ok (.iload_n 0, 1) := do_1a DJ6_numberOfLeadingZeros_0f7a4_61
theorem dJ6_numberOfLeadingZeros_0f7a4_62 : decode cJ6_numberOfLeadingZeros_0f7a4 62 = .ok (.iconst 4, 1) := do_07 DJ6_numberOfLeadingZeros_0f7a4_62
theorem dJ6_numberOfLeadingZeros_0f7a4_63 : decode cJ6_numberOfLeadingZeros_0f7a4 63 = .ok (.if_icmp .lt 10, 3) := do_a1 DJ6_numberOfLeadingZeros_0f7a4_63 (by decide +kernel)
theorem dJ6_numberOfLeadingZeros_0f7a4_66 : decode cJ6_numberOfLeadingZeros_0f7a4 66 = .ok (.iinc 1 (-2), 3) := do_84 DJ6_numberOfLeadingZeros_0f7a4_66
theorem dJ6_numberOfLeadingZeros_0f7a4_69 : decode cJ6_numberOfLeadingZeros_0f7a4 69 = .ok (.iload_n 0, 1) := do_1a DJ6_numberOfLeadingZeros_0f7a4_69
theorem dJ6_numberOfLeadingZeros_0f7a4_70 : decode cJ6_numberOfLeadingZeros_0f7a4 70 = .ok (.iconst 2, 1) := do_05 DJ6_numberOfLeadingZeros_0f7a4_70
theorem dJ6_numberOfLeadingZeros_0f7a4_71 : decode cJ6_numberOfLeadingZeros_0f7a4 71 = .ok (.iushr, 1) := do_7c DJ6_numberOfLeadingZeros_0f7a4_71
theorem dJ6_numberOfLeadingZeros_0f7a4_72 : decode cJ6_numberOfLeadingZeros_0f7a4 72 = .ok (.istore_n 0, 1) := do_3b DJ6_numberOfLeadingZeros_0f7a4_72
theorem dJ6_numberOfLeadingZeros_0f7a4_73 : decode cJ6_numberOfLeadingZeros_0f7a4 73 = .ok (.iload_n 1, 1) := do_1b DJ6_numberOfLeadingZeros_0f7a4_73
theorem dJ6_numberOfLeadingZeros_0f7a4_74 : decode cJ6_numberOfLeadingZeros_0f7a4 74 = .ok (.iload_n 0, 1) := do_1a DJ6_numberOfLeadingZeros_0f7a4_74
theorem dJ6_numberOfLeadingZeros_0f7a4_75 : decode cJ6_numberOfLeadingZeros_0f7a4 75 = .ok (.iconst 1, 1) := do_04 DJ6_numberOfLeadingZeros_0f7a4_75
theorem dJ6_numberOfLeadingZeros_0f7a4_76 : decode cJ6_numberOfLeadingZeros_0f7a4 76 = .ok (.iushr, 1) := do_7c DJ6_numberOfLeadingZeros_0f7a4_76
theorem dJ6_numberOfLeadingZeros_0f7a4_77 : decode cJ6_numberOfLeadingZeros_0f7a4 77 = .ok (.isub, 1) := do_64 DJ6_numberOfLeadingZeros_0f7a4_77
theorem dJ6_numberOfLeadingZeros_0f7a4_78 : decode cJ6_numberOfLeadingZeros_0f7a4 78 = .ok (.ireturn, 1) := do_ac DJ6_numberOfLeadingZeros_0f7a4_78
def TJ6_numberOfTrailingZeros_0f7a4_80 : List UInt8 := []
def TJ6_numberOfTrailingZeros_0f7a4_79 : List UInt8 := 172 :: TJ6_numberOfTrailingZeros_0f7a4_80
def TJ6_numberOfTrailingZeros_0f7a4_78 : List UInt8 := 96 :: TJ6_numberOfTrailingZeros_0f7a4_79
def TJ6_numberOfTrailingZeros_0f7a4_77 : List UInt8 := 124 :: TJ6_numberOfTrailingZeros_0f7a4_78
def TJ6_numberOfTrailingZeros_0f7a4_76 : List UInt8 := 4 :: TJ6_numberOfTrailingZeros_0f7a4_77
def TJ6_numberOfTrailingZeros_0f7a4_75 : List UInt8 := 26 :: TJ6_numberOfTrailingZeros_0f7a4_76
def TJ6_numberOfTrailingZeros_0f7a4_74 : List UInt8 := 27 :: TJ6_numberOfTrailingZeros_0f7a4_75
def TJ6_numberOfTrailingZeros_0f7a4_73 : List UInt8 := 59 :: TJ6_numberOfTrailingZeros_0f7a4_74
def TJ6_numberOfTrailingZeros_0f7a4_72 : List UInt8 := 124 :: TJ6_numberOfTrailingZeros_0f7a4_73
def TJ6_numberOfTrailingZeros_0f7a4_71 : List UInt8 := 5 :: TJ6_numberOfTrailingZeros_0f7a4_72
def TJ6_numberOfTrailingZeros_0f7a4_70 : List UInt8 := 26 :: TJ6_numberOfTrailingZeros_0f7a4_71
def TJ6_numberOfTrailingZeros_0f7a4_67 : List UInt8 := 132 :: 1 :: 2 :: TJ6_numberOfTrailingZeros_0f7a4_70
def TJ6_numberOfTrailingZeros_0f7a4_64 : List UInt8 := 164 :: 0 :: 10 :: TJ6_numberOfTrailingZeros_0f7a4_67
def TJ6_numberOfTrailingZeros_0f7a4_63 : List UInt8 := 7 :: TJ6_numberOfTrailingZeros_0f7a4_64
def TJ6_numberOfTrailingZeros_0f7a4_62 : List UInt8 := 26 :: TJ6_numberOfTrailingZeros_0f7a4_63
def TJ6_numberOfTrailingZeros_0f7a4_61 : List UInt8 := 59 :: TJ6_numberOfTrailingZeros_0f7a4_62
def TJ6_numberOfTrailingZeros_0f7a4_60 : List UInt8 := 124 :: TJ6_numberOfTrailingZeros_0f7a4_61
def TJ6_numberOfTrailingZeros_0f7a4_59 : List UInt8 := 7 :: TJ6_numberOfTrailingZeros_0f7a4_60
def TJ6_numberOfTrailingZeros_0f7a4_58 : List UInt8 := 26 :: TJ6_numberOfTrailingZeros_0f7a4_59
def TJ6_numberOfTrailingZeros_0f7a4_55 : List UInt8 := 132 :: 1 :: 4 :: TJ6_numberOfTrailingZeros_0f7a4_58
def TJ6_numberOfTrailingZeros_0f7a4_52 : List UInt8 := 164 :: 0 :: 10 :: TJ6_numberOfTrailingZeros_0f7a4_55
def TJ6_numberOfTrailingZeros_0f7a4_50 : List UInt8 := 16 :: 16 :: TJ6_numberOfTrailingZeros_0f7a4_52
def TJ6_numberOfTrailingZeros_0f7a4_49 : List UInt8 := 26 :: TJ6_numberOfTrailingZeros_0f7a4_50
def TJ6_numberOfTrailingZeros_0f7a4_48 : List UInt8 := 59 :: TJ6_numberOfTrailingZeros_0f7a4_49
def TJ6_numberOfTrailingZeros_0f7a4_47 : List UInt8 := 124 :: TJ6_numberOfTrailingZeros_0f7a4_48
def TJ6_numberOfTrailingZeros_0f7a4_45 : List UInt8 := 16 :: 8 :: TJ6_numberOfTrailingZeros_0f7a4_47
def TJ6_numberOfTrailingZeros_0f7a4_44 : List UInt8 := 26 :: TJ6_numberOfTrailingZeros_0f7a4_45
def TJ6_numberOfTrailingZeros_0f7a4_41 : List UInt8 := 132 :: 1 :: 8 :: TJ6_numberOfTrailingZeros_0f7a4_44
def TJ6_numberOfTrailingZeros_0f7a4_38 : List UInt8 := 164 :: 0 :: 11 :: TJ6_numberOfTrailingZeros_0f7a4_41
def TJ6_numberOfTrailingZeros_0f7a4_35 : List UInt8 := 17 :: 1 :: 0 :: TJ6_numberOfTrailingZeros_0f7a4_38
def TJ6_numberOfTrailingZeros_0f7a4_34 : List UInt8 := 26 :: TJ6_numberOfTrailingZeros_0f7a4_35
def TJ6_numberOfTrailingZeros_0f7a4_33 : List UInt8 := 59 :: TJ6_numberOfTrailingZeros_0f7a4_34
def TJ6_numberOfTrailingZeros_0f7a4_32 : List UInt8 := 124 :: TJ6_numberOfTrailingZeros_0f7a4_33
def TJ6_numberOfTrailingZeros_0f7a4_30 : List UInt8 := 16 :: 16 :: TJ6_numberOfTrailingZeros_0f7a4_32
def TJ6_numberOfTrailingZeros_0f7a4_29 : List UInt8 := 26 :: TJ6_numberOfTrailingZeros_0f7a4_30
def TJ6_numberOfTrailingZeros_0f7a4_26 : List UInt8 := 132 :: 1 :: 16 :: TJ6_numberOfTrailingZeros_0f7a4_29
def TJ6_numberOfTrailingZeros_0f7a4_23 : List UInt8 := 164 :: 0 :: 11 :: TJ6_numberOfTrailingZeros_0f7a4_26
def TJ6_numberOfTrailingZeros_0f7a4_20 : List UInt8 := 19 :: 1 :: 8 :: TJ6_numberOfTrailingZeros_0f7a4_23
def TJ6_numberOfTrailingZeros_0f7a4_19 : List UInt8 := 26 :: TJ6_numberOfTrailingZeros_0f7a4_20
def TJ6_numberOfTrailingZeros_0f7a4_18 : List UInt8 := 60 :: TJ6_numberOfTrailingZeros_0f7a4_19
def TJ6_numberOfTrailingZeros_0f7a4_17 : List UInt8 := 4 :: TJ6_numberOfTrailingZeros_0f7a4_18
def TJ6_numberOfTrailingZeros_0f7a4_16 : List UInt8 := 172 :: TJ6_numberOfTrailingZeros_0f7a4_17
def TJ6_numberOfTrailingZeros_0f7a4_15 : List UInt8 := 126 :: TJ6_numberOfTrailingZeros_0f7a4_16
def TJ6_numberOfTrailingZeros_0f7a4_13 : List UInt8 := 16 :: 32 :: TJ6_numberOfTrailingZeros_0f7a4_15
def TJ6_numberOfTrailingZeros_0f7a4_12 : List UInt8 := 26 :: TJ6_numberOfTrailingZeros_0f7a4_13
def TJ6_numberOfTrailingZeros_0f7a4_9 : List UInt8 := 157 :: 0 :: 8 :: TJ6_numberOfTrailingZeros_0f7a4_12
def TJ6_numberOfTrailingZeros_0f7a4_8 : List UInt8 := 26 :: TJ6_numberOfTrailingZeros_0f7a4_9
def TJ6_numberOfTrailingZeros_0f7a4_7 : List UInt8 := 59 :: TJ6_numberOfTrailingZeros_0f7a4_8
def TJ6_numberOfTrailingZeros_0f7a4_6 : List UInt8 := 126 :: TJ6_numberOfTrailingZeros_0f7a4_7
def TJ6_numberOfTrailingZeros_0f7a4_5 : List UInt8 := 100 :: TJ6_numberOfTrailingZeros_0f7a4_6
def TJ6_numberOfTrailingZeros_0f7a4_4 : List UInt8 := 4 :: TJ6_numberOfTrailingZeros_0f7a4_5
def TJ6_numberOfTrailingZeros_0f7a4_3 : List UInt8 := 26 :: TJ6_numberOfTrailingZeros_0f7a4_4
def TJ6_numberOfTrailingZeros_0f7a4_2 : List UInt8 := 130 :: TJ6_numberOfTrailingZeros_0f7a4_3
def TJ6_numberOfTrailingZeros_0f7a4_1 : List UInt8 := 2 :: TJ6_numberOfTrailingZeros_0f7a4_2
def TJ6_numberOfTrailingZeros_0f7a4_0 : List UInt8 := 26 :: TJ6_numberOfTrailingZeros_0f7a4_1
theorem DJ6_numberOfTrailingZeros_0f7a4_0 : cJ6_numberOfTrailingZeros_0f7a4.data.toList.drop 0 = TJ6_numberOfTrailingZeros_0f7a4_0 := by decide +kernel
theorem DJ6_numberOfTrailingZeros_0f7a4_1 : cJ6_numberOfTrailingZeros_0f7a4.data.toList.drop 1 = TJ6_numberOfTrailingZeros_0f7a4_1 := dr1 DJ6_numberOfTrailingZeros_0f7a4_0
theorem DJ6_numberOfTrailingZeros_0f7a4_2 : cJ6_numberOfTrailingZeros_0f7a4.data.toList.drop 2 = TJ6_numberOfTrailingZeros_0f7a4_2 := dr1 DJ6_numberOfTrailingZeros_0f7a4_1
theorem DJ6_numberOfTrailingZeros_0f7a4_3 : cJ6_numberOfTrailingZeros_0f7a4.data.toList.drop 3 = TJ6_numberOfTrailingZeros_0f7a4_3 := dr1 DJ6_numberOfTrailingZeros_0f7a4_2
theorem DJ6_numberOfTrailingZeros_0f7a4_4 : cJ6_numberOfTrailingZeros_0f7a4.data.toList.drop 4 = TJ6_numberOfTrailingZeros_0f7a4_4 := dr1 DJ6_numberOfTrailingZeros_0f7a4_3
theorem DJ6_numberOfTrailingZeros_0f7a4_5 : cJ6_numberOfTrailingZeros_0f7a4.data.toList.drop 5 = TJ6_numberOfTrailingZeros_0f7a4_5 := dr1 DJ6_numberOfTrailingZeros_0f7a4_4
theorem DJ6_numberOfTrailingZeros_0f7a4_6 : cJ6_numberOfTrailingZeros_0f7a4.data.toList.drop 6 = TJ6_numberOfTrailingZeros_0f7a4_6 := dr1 DJ6_numberOfTrailingZeros_0f7a4_5
theorem DJ6_numberOfTrailingZeros_0f7a4_7 : cJ6_numberOfTrailingZeros_0f7a4.data.toList.drop 7 = TJ6_numberOfTrailingZeros_0f7a4_7 := dr1 DJ6_numberOfTrailingZeros_0f7a4_6
theorem DJ6_numberOfTrailingZeros_0f7a4_8 : cJ6_numberOfTrailingZeros_0f7a4.data.toList.drop 8 = TJ6_numberOfTrailingZeros_0f7a4_8 := dr1 DJ6_numberOfTrailingZeros_0f7a4_7
theorem DJ6_numberOfTrailingZeros_0f7a4_9 : cJ6_numberOfTrailingZeros_0f7a4.data.toList.drop 9 = TJ6_numberOfTrailingZeros_0f7a4_9 := dr1 DJ6_numberOfTrailingZeros_0f7a4_8
theorem DJ6_numberOfTrailingZeros_0f7a4_12 : cJ6_numberOfTrailingZeros_0f7a4.data.toList.drop 12 = TJ6_numberOfTrailingZeros_0f7a4_12 := dr3 DJ6_numberOfTrailingZeros_0f7a4_9
theorem DJ6_numberOfTrailingZeros_0f7a4_13 : cJ6_numberOfTrailingZeros_0f7a4.data.toList.drop 13 = TJ6_numberOfTrailingZeros_0f7a4_13 := dr1 DJ6_numberOfTrailingZeros_0f7a4_12
theorem DJ6_numberOfTrailingZeros_0f7a4_15 : cJ6_numberOfTrailingZeros_0f7a4.data.toList.drop 15 = TJ6_numberOfTrailingZeros_0f7a4_15 := dr2 DJ6_numberOfTrailingZeros_0f7a4_13
theorem DJ6_numberOfTrailingZeros_0f7a4_16 : cJ6_numberOfTrailingZeros_0f7a4.data.toList.drop 16 = TJ6_numberOfTrailingZeros_0f7a4_16 := dr1 DJ6_numberOfTrailingZeros_0f7a4_15
theorem DJ6_numberOfTrailingZeros_0f7a4_17 : cJ6_numberOfTrailingZeros_0f7a4.data.toList.drop 17 = TJ6_numberOfTrailingZeros_0f7a4_17 := dr1 DJ6_numberOfTrailingZeros_0f7a4_16
theorem DJ6_numberOfTrailingZeros_0f7a4_18 : cJ6_numberOfTrailingZeros_0f7a4.data.toList.drop 18 = TJ6_numberOfTrailingZeros_0f7a4_18 := dr1 DJ6_numberOfTrailingZeros_0f7a4_17
theorem DJ6_numberOfTrailingZeros_0f7a4_19 : cJ6_numberOfTrailingZeros_0f7a4.data.toList.drop 19 = TJ6_numberOfTrailingZeros_0f7a4_19 := dr1 DJ6_numberOfTrailingZeros_0f7a4_18
theorem DJ6_numberOfTrailingZeros_0f7a4_20 : cJ6_numberOfTrailingZeros_0f7a4.data.toList.drop 20 = TJ6_numberOfTrailingZeros_0f7a4_20 := dr1 DJ6_numberOfTrailingZeros_0f7a4_19
theorem DJ6_numberOfTrailingZeros_0f7a4_23 : cJ6_numberOfTrailingZeros_0f7a4.data.toList.drop 23 = TJ6_numberOfTrailingZeros_0f7a4_23 := dr3 DJ6_numberOfTrailingZeros_0f7a4_20
theorem DJ6_numberOfTrailingZeros_0f7a4_26 : cJ6_numberOfTrailingZeros_0f7a4.data.toList.drop 26 = TJ6_numberOfTrailingZeros_0f7a4_26 := dr3 DJ6_numberOfTrailingZeros_0f7a4_23
theorem DJ6_numberOfTrailingZeros_0f7a4_29 : cJ6_numberOfTrailingZeros_0f7a4.data.toList.drop 29 = TJ6_numberOfTrailingZeros_0f7a4_29 := dr3 DJ6_numberOfTrailingZeros_0f7a4_26
theorem DJ6_numberOfTrailingZeros_0f7a4_30 : cJ6_numberOfTrailingZeros_0f7a4.data.toList.drop 30 = TJ6_numberOfTrailingZeros_0f7a4_30 := dr1 DJ6_numberOfTrailingZeros_0f7a4_29
theorem DJ6_numberOfTrailingZeros_0f7a4_32 : cJ6_numberOfTrailingZeros_0f7a4.data.toList.drop 32 = TJ6_numberOfTrailingZeros_0f7a4_32 := dr2 DJ6_numberOfTrailingZeros_0f7a4_30
theorem DJ6_numberOfTrailingZeros_0f7a4_33 : cJ6_numberOfTrailingZeros_0f7a4.data.toList.drop 33 = TJ6_numberOfTrailingZeros_0f7a4_33 := dr1 DJ6_numberOfTrailingZeros_0f7a4_32
theorem DJ6_numberOfTrailingZeros_0f7a4_34 : cJ6_numberOfTrailingZeros_0f7a4.data.toList.drop 34 = TJ6_numberOfTrailingZeros_0f7a4_34 := dr1 DJ6_numberOfTrailingZeros_0f7a4_33
theorem DJ6_numberOfTrailingZeros_0f7a4_35 : cJ6_numberOfTrailingZeros_0f7a4.data.toList.drop 35 = TJ6_numberOfTrailingZeros_0f7a4_35 := dr1 DJ6_numberOfTrailingZeros_0f7a4_34
theorem DJ6_numberOfTrailingZeros_0f7a4_38 : cJ6_numberOfTrailingZeros_0f7a4.data.toList.drop 38 = TJ6_numberOfTrailingZeros_0f7a4_38 := dr3 DJ6_numberOfTrailingZeros_0f7a4_35
theorem DJ6_numberOfTrailingZeros_0f7a4_41 : cJ6_numberOfTrailingZeros_0f7a4.data.toList.drop 41 = TJ6_numberOfTrailingZeros_0f7a4_41 := dr3 DJ6_numberOfTrailingZeros_0f7a4_38
theorem DJ6_numberOfTrailingZeros_0f7a4_44 : cJ6_numberOfTrailingZeros_0f7a4.data.toList.drop 44 = TJ6_numberOfTrailingZeros_0f7a4_44 := dr3 DJ6_numberOfTrailingZeros_0f7a4_41
theorem DJ6_numberOfTrailingZeros_0f7a4_45 : cJ6_numberOfTrailingZeros_0f7a4.data.toList.drop 45 = TJ6_numberOfTrailingZeros_0f7a4_45 := dr1 DJ6_numberOfTrailingZeros_0f7a4_44
theorem DJ6_numberOfTrailingZeros_0f7a4_47 : cJ6_numberOfTrailingZeros_0f7a4.data.toList.drop 47 = TJ6_numberOfTrailingZeros_0f7a4_47 := dr2 DJ6_numberOfTrailingZeros_0f7a4_45
theorem DJ6_numberOfTrailingZeros_0f7a4_48 : cJ6_numberOfTrailingZeros_0f7a4.data.toList.drop 48 = TJ6_numberOfTrailingZeros_0f7a4_48 := dr1 DJ6_numberOfTrailingZeros_0f7a4_47
theorem DJ6_numberOfTrailingZeros_0f7a4_49 : cJ6_numberOfTrailingZeros_0f7a4.data.toList.drop 49 = TJ6_numberOfTrailingZeros_0f7a4_49 := dr1 DJ6_numberOfTrailingZeros_0f7a4_48
theorem DJ6_numberOfTrailingZeros_0f7a4_50 : cJ6_numberOfTrailingZeros_0f7a4.data.toList.drop 50 = TJ6_numberOfTrailingZeros_0f7a4_50 := dr1 DJ6_numberOfTrailingZeros_0f7a4_49
theorem DJ6_numberOfTrailingZeros_0f7a4_52 : cJ6_numberOfTrailingZeros_0f7a4.data.toList.drop 52 = TJ6_numberOfTrailingZeros_0f7a4_52 := dr2 DJ6_numberOfTrailingZeros_0f7a4_50
theorem DJ6_numberOfTrailingZeros_0f7a4_55 : cJ6_numberOfTrailingZeros_0f7a4.data.toList.drop 55 = TJ6_numberOfTrailingZeros_0f7a4_55 := dr3 DJ6_numberOfTrailingZeros_0f7a4_52
theorem DJ6_numberOfTrailingZeros_0f7a4_58 : cJ6_numberOfTrailingZeros_0f7a4.data.toList.drop 58 = TJ6_numberOfTrailingZeros_0f7a4_58 := dr3 DJ6_numberOfTrailingZeros_0f7a4_55
theorem DJ6_numberOfTrailingZeros_0f7a4_59 : cJ6_numberOfTrailingZeros_0f7a4.data.toList.drop 59 = TJ6_numberOfTrailingZeros_0f7a4_59 := dr1 DJ6_numberOfTrailingZeros_0f7a4_58
theorem DJ6_numberOfTrailingZeros_0f7a4_60 : cJ6_numberOfTrailingZeros_0f7a4.data.toList.drop 60 = TJ6_numberOfTrailingZeros_0f7a4_60 := dr1 DJ6_numberOfTrailingZeros_0f7a4_59
theorem DJ6_numberOfTrailingZeros_0f7a4_61 : cJ6_numberOfTrailingZeros_0f7a4.data.toList.drop 61 = TJ6_numberOfTrailingZeros_0f7a4_61 := dr1 DJ6_numberOfTrailingZeros_0f7a4_60
theorem DJ6_numberOfTrailingZeros_0f7a4_62 : cJ6_numberOfTrailingZeros_0f7a4.data.toList.drop 62 = TJ6_numberOfTrailingZeros_0f7a4_62 := dr1 DJ6_numberOfTrailingZeros_0f7a4_61
theorem DJ6_numberOfTrailingZeros_0f7a4_63 : cJ6_numberOfTrailingZeros_0f7a4.data.toList.drop 63 = TJ6_numberOfTrailingZeros_0f7a4_63 := dr1 DJ6_numberOfTrailingZeros_0f7a4_62
theorem DJ6_numberOfTrailingZeros_0f7a4_64 : cJ6_numberOfTrailingZeros_0f7a4.data.toList.drop 64 = TJ6_numberOfTrailingZeros_0f7a4_64 := dr1 DJ6_numberOfTrailingZeros_0f7a4_63
theorem DJ6_numberOfTrailingZeros_0f7a4_67 : cJ6_numberOfTrailingZeros_0f7a4.data.toList.drop 67 = TJ6_numberOfTrailingZeros_0f7a4_67 := dr3 DJ6_numberOfTrailingZeros_0f7a4_64
theorem DJ6_numberOfTrailingZeros_0f7a4_70 : cJ6_numberOfTrailingZeros_0f7a4.data.toList.drop 70 = TJ6_numberOfTrailingZeros_0f7a4_70 := dr3 DJ6_numberOfTrailingZeros_0f7a4_67
theorem DJ6_numberOfTrailingZeros_0f7a4_71 : cJ6_numberOfTrailingZeros_0f7a4.data.toList.drop 71 = TJ6_numberOfTrailingZeros_0f7a4_71 := dr1 DJ6_numberOfTrailingZeros_0f7a4_70
theorem DJ6_numberOfTrailingZeros_0f7a4_72 : cJ6_numberOfTrailingZeros_0f7a4.data.toList.drop 72 = TJ6_numberOfTrailingZeros_0f7a4_72 := dr1 DJ6_numberOfTrailingZeros_0f7a4_71
theorem DJ6_numberOfTrailingZeros_0f7a4_73 : cJ6_numberOfTrailingZeros_0f7a4.data.toList.drop 73 = TJ6_numberOfTrailingZeros_0f7a4_73 := dr1 DJ6_numberOfTrailingZeros_0f7a4_72
theorem DJ6_numberOfTrailingZeros_0f7a4_74 : cJ6_numberOfTrailingZeros_0f7a4.data.toList.drop 74 = TJ6_numberOfTrailingZeros_0f7a4_74 := dr1 DJ6_numberOfTrailingZeros_0f7a4_73
theorem DJ6_numberOfTrailingZeros_0f7a4_75 : cJ6_numberOfTrailingZeros_0f7a4.data.toList.drop 75 = TJ6_numberOfTrailingZeros_0f7a4_75 := dr1 DJ6_numberOfTrailingZeros_0f7a4_74
theorem DJ6_numberOfTrailingZeros_0f7a4_76 : cJ6_numberOfTrailingZeros_0f7a4.data.toList.drop 76 = TJ6_numberOfTrailingZeros_0f7a4_76 := dr1 DJ6_numberOfTrailingZeros_0f7a4_75
theorem DJ6_numberOfTrailingZeros_0f7a4_77 : cJ6_numberOfTrailingZeros_0f7a4.data.toList.drop 77 = TJ6_numberOfTrailingZeros_0f7a4_77 := dr1 DJ6_numberOfTrailingZeros_0f7a4_76
theorem DJ6_numberOfTrailingZeros_0f7a4_78 : cJ6_numberOfTrailingZeros_0f7a4.data.toList.drop 78 = TJ6_numberOfTrailingZeros_0f7a4_78 := dr1 DJ6_numberOfTrailingZeros_0f7a4_77
theorem DJ6_numberOfTrailingZeros_0f7a4_79 : cJ6_numberOfTrailingZeros_0f7a4.data.toList.drop 79 = TJ6_numberOfTrailingZeros_0f7a4_79 := dr1 DJ6_numberOfTrailingZeros_0f7a4_78
theorem dJ6_numberOfTrailingZeros_0f7a4_0 : decode cJ6_numberOfTrailingZeros_0f7a4 0 = .ok (.iload_n 0, 1) := do_1a DJ6_numberOfTrailingZeros_0f7a4_0
theorem dJ6_numberOfTrailingZeros_0f7a4_1 : decode cJ6_numberOfTrailingZeros_0f7a4 1 = .ok (.iconst (-1), 1) := do_02 DJ6_numberOfTrailingZeros_0f7a4_1
theorem dJ6_numberOfTrailingZeros_0f7a4_2 : decode cJ6_numberOfTrailingZeros_0f7a4 2 = .ok (.ixor, 1) := do_82 DJ6_numberOfTrailingZeros_0f7a4_2
theorem dJ6_numberOfTrailingZeros_0f7a4_3 : decode cJ6_numberOfTrailingZeros_0f7a4 3 = .ok (.iload_n 0, 1) := do_1a DJ6_numberOfTrailingZeros_0f7a4_3
theorem dJ6_numberOfTrailingZeros_0f7a4_4 : decode cJ6_numberOfTrailingZeros_0f7a4 4 = .ok (.iconst 1, 1) := do_04 DJ6_numberOfTrailingZeros_0f7a4_4
theorem dJ6_numberOfTrailingZeros_0f7a4_5 : decode cJ6_numberOfTrailingZeros_0f7a4 5 = .ok (.isub, 1) := do_64 DJ6_numberOfTrailingZeros_0f7a4_5
theorem dJ6_numberOfTrailingZeros_0f7a4_6 : decode cJ6_numberOfTrailingZeros_0f7a4 6 = .ok (.iand, 1) := do_7e DJ6_numberOfTrailingZeros_0f7a4_6
theorem dJ6_numberOfTrailingZeros_0f7a4_7 : decode cJ6_numberOfTrailingZeros_0f7a4 7 = .ok (.istore_n 0, 1) := do_3b DJ6_numberOfTrailingZeros_0f7a4_7
theorem dJ6_numberOfTrailingZeros_0f7a4_8 : decode cJ6_numberOfTrailingZeros_0f7a4 8 = .ok (.iload_n 0, 1) := do_1a DJ6_numberOfTrailingZeros_0f7a4_8
theorem dJ6_numberOfTrailingZeros_0f7a4_9 : decode cJ6_numberOfTrailingZeros_0f7a4 9 = .ok (.ifCond .gt 8, 3) := do_9d DJ6_numberOfTrailingZeros_0f7a4_9 (by decide +kernel)
theorem dJ6_numberOfTrailingZeros_0f7a4_12 : decode cJ6_numberOfTrailingZeros_0f7a4 12 = .ok (.iload_n 0, 1) := do_1a DJ6_numberOfTrailingZeros_0f7a4_12
theorem dJ6_numberOfTrailingZeros_0f7a4_13 : decode cJ6_numberOfTrailingZeros_0f7a4 13 = .ok (.bipush 32, 2) := do_10 DJ6_numberOfTrailingZeros_0f7a4_13 (by decide +kernel)
theorem dJ6_numberOfTrailingZeros_0f7a4_15 : decode cJ6_numberOfTrailingZeros_0f7a4 15 = .ok (.iand, 1) := do_7e DJ6_numberOfTrailingZeros_0f7a4_15
theorem dJ6_numberOfTrailingZeros_0f7a4_16 : decode cJ6_numberOfTrailingZeros_0f7a4 16 = .ok (.ireturn, 1) := do_ac DJ6_numberOfTrailingZeros_0f7a4_16
theorem dJ6_numberOfTrailingZeros_0f7a4_17 : decode cJ6_numberOfTrailingZeros_0f7a4 17 = .ok (.iconst 1, 1) := do_04 DJ6_numberOfTrailingZeros_0f7a4_17
theorem dJ6_numberOfTrailingZeros_0f7a4_18 : decode cJ6_numberOfTrailingZeros_0f7a4 18 = .ok (.istore_n 1, 1) := do_3c DJ6_numberOfTrailingZeros_0f7a4_18
theorem dJ6_numberOfTrailingZeros_0f7a4_19 : decode cJ6_numberOfTrailingZeros_0f7a4 19 = .ok (.iload_n 0, 1) := do_1a DJ6_numberOfTrailingZeros_0f7a4_19
theorem dJ6_numberOfTrailingZeros_0f7a4_20 : decode cJ6_numberOfTrailingZeros_0f7a4 20 = .ok (.ldc_w 264, 3) := do_13 DJ6_numberOfTrailingZeros_0f7a4_20
theorem dJ6_numberOfTrailingZeros_0f7a4_23 : decode cJ6_numberOfTrailingZeros_0f7a4 23 = .ok (.if_icmp .le 11, 3) := do_a4 DJ6_numberOfTrailingZeros_0f7a4_23 (by decide +kernel)
theorem dJ6_numberOfTrailingZeros_0f7a4_26 : decode cJ6_numberOfTrailingZeros_0f7a4 26 = .ok (.iinc 1 16, 3) := do_84 DJ6_numberOfTrailingZeros_0f7a4_26
theorem dJ6_numberOfTrailingZeros_0f7a4_29 : decode cJ6_numberOfTrailingZeros_0f7a4 29 = .ok (.iload_n 0, 1) := do_1a DJ6_numberOfTrailingZeros_0f7a4_29
theorem dJ6_numberOfTrailingZeros_0f7a4_30 : decode cJ6_numberOfTrailingZeros_0f7a4 30 = .ok (.bipush 16, 2) := do_10 DJ6_numberOfTrailingZeros_0f7a4_30 (by decide +kernel)
theorem dJ6_numberOfTrailingZeros_0f7a4_32 : decode cJ6_numberOfTrailingZeros_0f7a4 32 = .ok (.iushr, 1) := do_7c DJ6_numberOfTrailingZeros_0f7a4_32
theorem dJ6_numberOfTrailingZeros_0f7a4_33 : decode cJ6_numberOfTrailingZeros_0f7a4 33 = .ok (.istore_n 0, 1) := do_3b DJ6_numberOfTrailingZeros_0f7a4_33
theorem dJ6_numberOfTrailingZeros_0f7a4_34 : decode cJ6_numberOfTrailingZeros_0f7a4 34 = .ok (.iload_n 0, 1) := do_1a DJ6_numberOfTrailingZeros_0f7a4_34
theorem dJ6_numberOfTrailingZeros_0f7a4_35 : decode cJ6_numberOfTrailingZeros_0f7a4 35 = .ok (.sipush 256, 3) := do_11 DJ6_numberOfTrailingZeros_0f7a4_35 (by decide +kernel)
theorem dJ6_numberOfTrailingZeros_0f7a4_38 : decode cJ6_numberOfTrailingZeros_0f7a4 38 = .ok (.if_icmp .le 11, 3) := do_a4 DJ6_numberOfTrailingZeros_0f7a4_38 (by decide +kernel)
theorem dJ6_numberOfTrailingZeros_0f7a4_41 : decode cJ6_numberOfTrailingZeros_0f7a4 41 = .ok (.iinc 1 8, 3) := do_84 DJ6_numberOfTrailingZeros_0f7a4_41
theorem dJ6_numberOfTrailingZeros_0f7a4_44 : decode cJ6_numberOfTrailingZeros_0f7a4 44 = .ok (.iload_n 0, 1) := do_1a DJ6_numberOfTrailingZeros_0f7a4_44
theorem dJ6_numberOfTrailingZeros_0f7a4_45 : decode cJ6_numberOfTrailingZeros_0f7a4 45 = .ok (.bipush 8, 2) := do_10 DJ6_numberOfTrailingZeros_0f7a4_45 (by decide +kernel)
theorem dJ6_numberOfTrailingZeros_0f7a4_47 : decode cJ6_numberOfTrailingZeros_0f7a4 47 = .ok (.iushr, 1) := do_7c DJ6_numberOfTrailingZeros_0f7a4_47
theorem dJ6_numberOfTrailingZeros_0f7a4_48 : decode cJ6_numberOfTrailingZeros_0f7a4 48 = .ok (.istore_n 0, 1) := do_3b DJ6_numberOfTrailingZeros_0f7a4_48
theorem dJ6_numberOfTrailingZeros_0f7a4_49 : decode cJ6_numberOfTrailingZeros_0f7a4 49 = .ok (.iload_n 0, 1) := do_1a DJ6_numberOfTrailingZeros_0f7a4_49
theorem dJ6_numberOfTrailingZeros_0f7a4_50 : decode cJ6_numberOfTrailingZeros_0f7a4 50 = .ok (.bipush 16, 2) := do_10 DJ6_numberOfTrailingZeros_0f7a4_50 (by decide +kernel)
theorem dJ6_numberOfTrailingZeros_0f7a4_52 : decode cJ6_numberOfTrailingZeros_0f7a4 52 = .ok (.if_icmp .le 10, 3) := do_a4 DJ6_numberOfTrailingZeros_0f7a4_52 (by decide +kernel)
theorem dJ6_numberOfTrailingZeros_0f7a4_55 : decode cJ6_numberOfTrailingZeros_0f7a4 55 = .ok (.iinc 1 4, 3) := do_84 DJ6_numberOfTrailingZeros_0f7a4_55
theorem dJ6_numberOfTrailingZeros_0f7a4_58 : decode cJ6_numberOfTrailingZeros_0f7a4 58 = .ok (.iload_n 0, 1) := do_1a DJ6_numberOfTrailingZeros_0f7a4_58
theorem dJ6_numberOfTrailingZeros_0f7a4_59 : decode cJ6_numberOfTrailingZeros_0f7a4 59 = .ok (.iconst 4, 1) := do_07 DJ6_numberOfTrailingZeros_0f7a4_59
theorem dJ6_numberOfTrailingZeros_0f7a4_60 : decode cJ6_numberOfTrailingZeros_0f7a4 60 = .ok (.iushr, 1) := do_7c DJ6_numberOfTrailingZeros_0f7a4_60
theorem dJ6_numberOfTrailingZeros_0f7a4_61 : decode cJ6_numberOfTrailingZeros_0f7a4 61 = .ok (.istore_n 0, 1) := do_3b DJ6_numberOfTrailingZeros_0f7a4_61
theorem dJ6_numberOfTrailingZeros_0f7a4_62 : decode cJ6_numberOfTrailingZeros_0f7a4 62 = .ok (.iload_n 0, 1) := do_1a DJ6_numberOfTrailingZeros_0f7a4_62
theorem dJ6_numberOfTrailingZeros_0f7a4_63 : decode cJ6_numberOfTrailingZeros_0f7a4 63 = .ok (.iconst 4, 1) := do_07 DJ6_numberOfTrailingZeros_0f7a4_63
theorem dJ6_numberOfTrailingZeros_0f7a4_64 : decode cJ6_numberOfTrailingZeros_0f7a4 64 = .ok (.if_icmp .le 10, 3) := do_a4 DJ6_numberOfTrailingZeros_0f7a4_64 (by decide +kernel)
theorem dJ6_numberOfTrailingZeros_0f7a4_67 : decode cJ6_numberOfTrailingZeros_0f7a4 67 = .ok (.iinc 1 2, 3) := do_84 DJ6_numberOfTrailingZeros_0f7a4_67
theorem dJ6_numberOfTrailingZeros_0f7a4_70 : decode cJ6_numberOfTrailingZeros_0f7a4 70 = .ok (.iload_n 0, 1) := do_1a DJ6_numberOfTrailingZeros_0f7a4_70
theorem dJ6_numberOfTrailingZeros_0f7a4_71 : decode cJ6_numberOfTrailingZeros_0f7a4 71 = .ok (.iconst 2, 1) := do_05 DJ6_numberOfTrailingZeros_0f7a4_71
theorem dJ6_numberOfTrailingZeros_0f7a4_72 : decode cJ6_numberOfTrailingZeros_0f7a4 72 = .ok (.iushr, 1) := do_7c DJ6_numberOfTrailingZeros_0f7a4_72
theorem dJ6_numberOfTrailingZeros_0f7a4_73 : decode cJ6_numberOfTrailingZeros_0f7a4 73 = .ok (.istore_n 0, 1) := do_3b DJ6_numberOfTrailingZeros_0f7a4_73
theorem dJ6_numberOfTrailingZeros_0f7a4_74 : decode cJ6_numberOfTrailingZeros_0f7a4 74 = .ok (.iload_n 1, 1) := do_1b DJ6_numberOfTrailingZeros_0f7a4_74
theorem dJ6_numberOfTrailingZeros_0f7a4_75 : decode cJ6_numberOfTrailingZeros_0f7a4 75 = .ok (.iload_n 0, 1) := do_1a DJ6_numberOfTrailingZeros_0f7a4_75
theorem dJ6_numberOfTrailingZeros_0f7a4_76 : decode cJ6_numberOfTrailingZeros_0f7a4 76 = .ok (.iconst 1, 1) := do_04 DJ6_numberOfTrailingZeros_0f7a4_76
theorem dJ6_numberOfTrailingZeros_0f7a4_77 : decode cJ6_numberOfTrailingZeros_0f7a4 77 = .ok (.iushr, 1) := do_7c DJ6_numberOfTrailingZeros_0f7a4_77
theorem dJ6_numberOfTrailingZeros_0f7a4_78 : decode cJ6_numberOfTrailingZeros_0f7a4 78 = .ok (.iadd, 1) := do_60 DJ6_numberOfTrailingZeros_0f7a4_78
theorem dJ6_numberOfTrailingZeros_0f7a4_79 : decode cJ6_numberOfTrailingZeros_0f7a4 79 = .ok (.ireturn, 1) := do_ac DJ6_numberOfTrailingZeros_0f7a4_79
def TJ6_bitCount_0f7a4_53 : List UInt8 := []
def TJ6_bitCount_0f7a4_52 : List UInt8 := 172 :: TJ6_bitCount_0f7a4_53
def TJ6_bitCount_0f7a4_51 : List UInt8 := 126 :: TJ6_bitCount_0f7a4_52
def TJ6_bitCount_0f7a4_49 : List UInt8 := 16 :: 63 :: TJ6_bitCount_0f7a4_51
def TJ6_bitCount_0f7a4_48 : List UInt8 := 26 :: TJ6_bitCount_0f7a4_49
def TJ6_bitCount_0f7a4_47 : List UInt8 := 59 :: TJ6_bitCount_0f7a4_48
def TJ6_bitCount_0f7a4_46 : List UInt8 := 96 :: TJ6_bitCount_0f7a4_47
def TJ6_bitCount_0f7a4_45 : List UInt8 := 124 :: TJ6_bitCount_0f7a4_46
def TJ6_bitCount_0f7a4_43 : List UInt8 := 16 :: 16 :: TJ6_bitCount_0f7a4_45
def TJ6_bitCount_0f7a4_42 : List UInt8 := 26 :: TJ6_bitCount_0f7a4_43
def TJ6_bitCount_0f7a4_41 : List UInt8 := 26 :: TJ6_bitCount_0f7a4_42
def TJ6_bitCount_0f7a4_40 : List UInt8 := 59 :: TJ6_bitCount_0f7a4_41
def TJ6_bitCount_0f7a4_39 : List UInt8 := 96 :: TJ6_bitCount_0f7a4_40
def TJ6_bitCount_0f7a4_38 : List UInt8 := 124 :: TJ6_bitCount_0f7a4_39
def TJ6_bitCount_0f7a4_36 : List UInt8 := 16 :: 8 :: TJ6_bitCount_0f7a4_38
def TJ6_bitCount_0f7a4_35 : List UInt8 := 26 :: TJ6_bitCount_0f7a4_36
def TJ6_bitCount_0f7a4_34 : List UInt8 := 26 :: TJ6_bitCount_0f7a4_35
def TJ6_bitCount_0f7a4_33 : List UInt8 := 59 :: TJ6_bitCount_0f7a4_34
def TJ6_bitCount_0f7a4_32 : List UInt8 := 126 :: TJ6_bitCount_0f7a4_33
def TJ6_bitCount_0f7a4_29 : List UInt8 := 19 :: 1 :: 11 :: TJ6_bitCount_0f7a4_32
def TJ6_bitCount_0f7a4_28 : List UInt8 := 96 :: TJ6_bitCount_0f7a4_29
def TJ6_bitCount_0f7a4_27 : List UInt8 := 124 :: TJ6_bitCount_0f7a4_28
def TJ6_bitCount_0f7a4_26 : List UInt8 := 7 :: TJ6_bitCount_0f7a4_27
def TJ6_bitCount_0f7a4_25 : List UInt8 := 26 :: TJ6_bitCount_0f7a4_26
def TJ6_bitCount_0f7a4_24 : List UInt8 := 26 :: TJ6_bitCount_0f7a4_25
def TJ6_bitCount_0f7a4_23 : List UInt8 := 59 :: TJ6_bitCount_0f7a4_24
def TJ6_bitCount_0f7a4_22 : List UInt8 := 96 :: TJ6_bitCount_0f7a4_23
def TJ6_bitCount_0f7a4_21 : List UInt8 := 126 :: TJ6_bitCount_0f7a4_22
def TJ6_bitCount_0f7a4_18 : List UInt8 := 19 :: 1 :: 10 :: TJ6_bitCount_0f7a4_21
def TJ6_bitCount_0f7a4_17 : List UInt8 := 124 :: TJ6_bitCount_0f7a4_18
def TJ6_bitCount_0f7a4_16 : List UInt8 := 5 :: TJ6_bitCount_0f7a4_17
def TJ6_bitCount_0f7a4_15 : List UInt8 := 26 :: TJ6_bitCount_0f7a4_16
def TJ6_bitCount_0f7a4_14 : List UInt8 := 126 :: TJ6_bitCount_0f7a4_15
def TJ6_bitCount_0f7a4_11 : List UInt8 := 19 :: 1 :: 10 :: TJ6_bitCount_0f7a4_14
def TJ6_bitCount_0f7a4_10 : List UInt8 := 26 :: TJ6_bitCount_0f7a4_11
def TJ6_bitCount_0f7a4_9 : List UInt8 := 59 :: TJ6_bitCount_0f7a4_10
def TJ6_bitCount_0f7a4_8 : List UInt8 := 100 :: TJ6_bitCount_0f7a4_9
def TJ6_bitCount_0f7a4_7 : List UInt8 := 126 :: TJ6_bitCount_0f7a4_8
def TJ6_bitCount_0f7a4_4 : List UInt8 := 19 :: 1 :: 9 :: TJ6_bitCount_0f7a4_7
def TJ6_bitCount_0f7a4_3 : List UInt8 := 124 :: TJ6_bitCount_0f7a4_4
def TJ6_bitCount_0f7a4_2 : List UInt8 := 4 :: TJ6_bitCount_0f7a4_3
def TJ6_bitCount_0f7a4_1 : List UInt8 := 26 :: TJ6_bitCount_0f7a4_2
def TJ6_bitCount_0f7a4_0 : List UInt8 := 26 :: TJ6_bitCount_0f7a4_1
theorem DJ6_bitCount_0f7a4_0 : cJ6_bitCount_0f7a4.data.toList.drop 0 = TJ6_bitCount_0f7a4_0 := by decide +kernel
theorem DJ6_bitCount_0f7a4_1 : cJ6_bitCount_0f7a4.data.toList.drop 1 = TJ6_bitCount_0f7a4_1 := dr1 DJ6_bitCount_0f7a4_0
theorem DJ6_bitCount_0f7a4_2 : cJ6_bitCount_0f7a4.data.toList.drop 2 = TJ6_bitCount_0f7a4_2 := dr1 DJ6_bitCount_0f7a4_1
theorem DJ6_bitCount_0f7a4_3 : cJ6_bitCount_0f7a4.data.toList.drop 3 = TJ6_bitCount_0f7a4_3 := dr1 DJ6_bitCount_0f7a4_2
theorem DJ6_bitCount_0f7a4_4 : cJ6_bitCount_0f7a4.data.toList.drop 4 = TJ6_bitCount_0f7a4_4 := dr1 DJ6_bitCount_0f7a4_3
theorem DJ6_bitCount_0f7a4_7 : cJ6_bitCount_0f7a4.data.toList.drop 7 = TJ6_bitCount_0f7a4_7 := dr3 DJ6_bitCount_0f7a4_4
theorem DJ6_bitCount_0f7a4_8 : cJ6_bitCount_0f7a4.data.toList.drop 8 = TJ6_bitCount_0f7a4_8 := dr1 DJ6_bitCount_0f7a4_7
theorem DJ6_bitCount_0f7a4_9 : cJ6_bitCount_0f7a4.data.toList.drop 9 = TJ6_bitCount_0f7a4_9 := dr1 DJ6_bitCount_0f7a4_8
theorem DJ6_bitCount_0f7a4_10 : cJ6_bitCount_0f7a4.data.toList.drop 10 = TJ6_bitCount_0f7a4_10 := dr1 DJ6_bitCount_0f7a4_9
theorem DJ6_bitCount_0f7a4_11 : cJ6_bitCount_0f7a4.data.toList.drop 11 = TJ6_bitCount_0f7a4_11 := dr1 DJ6_bitCount_0f7a4_10
theorem DJ6_bitCount_0f7a4_14 : cJ6_bitCount_0f7a4.data.toList.drop 14 = TJ6_bitCount_0f7a4_14 := dr3 DJ6_bitCount_0f7a4_11
theorem DJ6_bitCount_0f7a4_15 : cJ6_bitCount_0f7a4.data.toList.drop 15 = TJ6_bitCount_0f7a4_15 := dr1 DJ6_bitCount_0f7a4_14
theorem DJ6_bitCount_0f7a4_16 : cJ6_bitCount_0f7a4.data.toList.drop 16 = TJ6_bitCount_0f7a4_16 := dr1 DJ6_bitCount_0f7a4_15
theorem DJ6_bitCount_0f7a4_17 : cJ6_bitCount_0f7a4.data.toList.drop 17 = TJ6_bitCount_0f7a4_17 := dr1 DJ6_bitCount_0f7a4_16
theorem DJ6_bitCount_0f7a4_18 : cJ6_bitCount_0f7a4.data.toList.drop 18 = TJ6_bitCount_0f7a4_18 := dr1 DJ6_bitCount_0f7a4_17
theorem DJ6_bitCount_0f7a4_21 : cJ6_bitCount_0f7a4.data.toList.drop 21 = TJ6_bitCount_0f7a4_21 := dr3 DJ6_bitCount_0f7a4_18
theorem DJ6_bitCount_0f7a4_22 : cJ6_bitCount_0f7a4.data.toList.drop 22 = TJ6_bitCount_0f7a4_22 := dr1 DJ6_bitCount_0f7a4_21
theorem DJ6_bitCount_0f7a4_23 : cJ6_bitCount_0f7a4.data.toList.drop 23 = TJ6_bitCount_0f7a4_23 := dr1 DJ6_bitCount_0f7a4_22
theorem DJ6_bitCount_0f7a4_24 : cJ6_bitCount_0f7a4.data.toList.drop 24 = TJ6_bitCount_0f7a4_24 := dr1 DJ6_bitCount_0f7a4_23
theorem DJ6_bitCount_0f7a4_25 : cJ6_bitCount_0f7a4.data.toList.drop 25 = TJ6_bitCount_0f7a4_25 := dr1 DJ6_bitCount_0f7a4_24
theorem DJ6_bitCount_0f7a4_26 : cJ6_bitCount_0f7a4.data.toList.drop 26 = TJ6_bitCount_0f7a4_26 := dr1 DJ6_bitCount_0f7a4_25
theorem DJ6_bitCount_0f7a4_27 : cJ6_bitCount_0f7a4.data.toList.drop 27 = TJ6_bitCount_0f7a4_27 := dr1 DJ6_bitCount_0f7a4_26
theorem DJ6_bitCount_0f7a4_28 : cJ6_bitCount_0f7a4.data.toList.drop 28 = TJ6_bitCount_0f7a4_28 := dr1 DJ6_bitCount_0f7a4_27
theorem DJ6_bitCount_0f7a4_29 : cJ6_bitCount_0f7a4.data.toList.drop 29 = TJ6_bitCount_0f7a4_29 := dr1 DJ6_bitCount_0f7a4_28
theorem DJ6_bitCount_0f7a4_32 : cJ6_bitCount_0f7a4.data.toList.drop 32 = TJ6_bitCount_0f7a4_32 := dr3 DJ6_bitCount_0f7a4_29
theorem DJ6_bitCount_0f7a4_33 : cJ6_bitCount_0f7a4.data.toList.drop 33 = TJ6_bitCount_0f7a4_33 := dr1 DJ6_bitCount_0f7a4_32
theorem DJ6_bitCount_0f7a4_34 : cJ6_bitCount_0f7a4.data.toList.drop 34 = TJ6_bitCount_0f7a4_34 := dr1 DJ6_bitCount_0f7a4_33
theorem DJ6_bitCount_0f7a4_35 : cJ6_bitCount_0f7a4.data.toList.drop 35 = TJ6_bitCount_0f7a4_35 := dr1 DJ6_bitCount_0f7a4_34
theorem DJ6_bitCount_0f7a4_36 : cJ6_bitCount_0f7a4.data.toList.drop 36 = TJ6_bitCount_0f7a4_36 := dr1 DJ6_bitCount_0f7a4_35
theorem DJ6_bitCount_0f7a4_38 : cJ6_bitCount_0f7a4.data.toList.drop 38 = TJ6_bitCount_0f7a4_38 := dr2 DJ6_bitCount_0f7a4_36
theorem DJ6_bitCount_0f7a4_39 : cJ6_bitCount_0f7a4.data.toList.drop 39 = TJ6_bitCount_0f7a4_39 := dr1 DJ6_bitCount_0f7a4_38
theorem DJ6_bitCount_0f7a4_40 : cJ6_bitCount_0f7a4.data.toList.drop 40 = TJ6_bitCount_0f7a4_40 := dr1 DJ6_bitCount_0f7a4_39
theorem DJ6_bitCount_0f7a4_41 : cJ6_bitCount_0f7a4.data.toList.drop 41 = TJ6_bitCount_0f7a4_41 := dr1 DJ6_bitCount_0f7a4_40
theorem DJ6_bitCount_0f7a4_42 : cJ6_bitCount_0f7a4.data.toList.drop 42 = TJ6_bitCount_0f7a4_42 := dr1 DJ6_bitCount_0f7a4_41
theorem DJ6_bitCount_0f7a4_43 : cJ6_bitCount_0f7a4.data.toList.drop 43 = TJ6_bitCount_0f7a4_43 := dr1 DJ6_bitCount_0f7a4_42
theorem DJ6_bitCount_0f7a4_45 : cJ6_bitCount_0f7a4.data.toList.drop 45 = TJ6_bitCount_0f7a4_45 := dr2 DJ6_bitCount_0f7a4_43
theorem DJ6_bitCount_0f7a4_46 : cJ6_bitCount_0f7a4.data.toList.drop 46 = TJ6_bitCount_0f7a4_46 := dr1 DJ6_bitCount_0f7a4_45
theorem DJ6_bitCount_0f7a4_47 : cJ6_bitCount_0f7a4.data.toList.drop 47 = TJ6_bitCount_0f7a4_47 := dr1 DJ6_bitCount_0f7a4_46
theorem DJ6_bitCount_0f7a4_48 : cJ6_bitCount_0f7a4.data.toList.drop 48 = TJ6_bitCount_0f7a4_48 := dr1 DJ6_bitCount_0f7a4_47
theorem DJ6_bitCount_0f7a4_49 : cJ6_bitCount_0f7a4.data.toList.drop 49 = TJ6_bitCount_0f7a4_49 := dr1 DJ6_bitCount_0f7a4_48
theorem DJ6_bitCount_0f7a4_51 : cJ6_bitCount_0f7a4.data.toList.drop 51 = TJ6_bitCount_0f7a4_51 := dr2 DJ6_bitCount_0f7a4_49
theorem DJ6_bitCount_0f7a4_52 : cJ6_bitCount_0f7a4.data.toList.drop 52 = TJ6_bitCount_0f7a4_52 := dr1 DJ6_bitCount_0f7a4_51
theorem dJ6_bitCount_0f7a4_0 : decode cJ6_bitCount_0f7a4 0 = .ok (.iload_n 0, 1) := do_1a DJ6_bitCount_0f7a4_0
theorem dJ6_bitCount_0f7a4_1 : decode cJ6_bitCount_0f7a4 1 = .ok (.iload_n 0, 1) := do_1a DJ6_bitCount_0f7a4_1
theorem dJ6_bitCount_0f7a4_2 : decode cJ6_bitCount_0f7a4 2 = .ok (.iconst 1, 1) := do_04 DJ6_bitCount_0f7a4_2
theorem dJ6_bitCount_0f7a4_3 : decode cJ6_bitCount_0f7a4 3 = .ok (.iushr, 1) := do_7c DJ6_bitCount_0f7a4_3
theorem dJ6_bitCount_0f7a4_4 : decode cJ6_bitCount_0f7a4 4 = .ok (.ldc_w 265, 3) := do_13 DJ6_bitCount_0f7a4_4
theorem dJ6_bitCount_0f7a4_7 : decode cJ6_bitCount_0f7a4 7 = .ok (.iand, 1) := do_7e DJ6_bitCount_0f7a4_7
theorem dJ6_bitCount_0f7a4_8 : decode cJ6_bitCount_0f7a4 8 = .ok (.isub, 1) := do_64 DJ6_bitCount_0f7a4_8
theorem dJ6_bitCount_0f7a4_9 : decode cJ6_bitCount_0f7a4 9 = .ok (.istore_n 0, 1) := do_3b DJ6_bitCount_0f7a4_9
theorem dJ6_bitCount_0f7a4_10 : decode cJ6_bitCount_0f7a4 10 = .ok (.iload_n 0, 1) := do_1a DJ6_bitCount_0f7a4_10
theorem dJ6_bitCount_0f7a4_11 : decode cJ6_bitCount_0f7a4 11 = .ok (.ldc_w 266, 3) := do_13 DJ6_bitCount_0f7a4_11
theorem dJ6_bitCount_0f7a4_14 : decode cJ6_bitCount_0f7a4 14 = .ok (.iand, 1) := do_7e DJ6_bitCount_0f7a4_14
theorem dJ6_bitCount_0f7a4_15 : decode cJ6_bitCount_0f7a4 15 = .ok (.iload_n 0, 1) := do_1a DJ6_bitCount_0f7a4_15
theorem dJ6_bitCount_0f7a4_16 : decode cJ6_bitCount_0f7a4 16 = .ok (.iconst 2, 1) := do_05 DJ6_bitCount_0f7a4_16
theorem dJ6_bitCount_0f7a4_17 : decode cJ6_bitCount_0f7a4 17 = .ok (.iushr, 1) := do_7c DJ6_bitCount_0f7a4_17
theorem dJ6_bitCount_0f7a4_18 : decode cJ6_bitCount_0f7a4 18 = .ok (.ldc_w 266, 3) := do_13 DJ6_bitCount_0f7a4_18
theorem dJ6_bitCount_0f7a4_21 : decode cJ6_bitCount_0f7a4 21 = .ok (.iand, 1) := do_7e DJ6_bitCount_0f7a4_21
theorem dJ6_bitCount_0f7a4_22 : decode cJ6_bitCount_0f7a4 22 = .ok (.iadd, 1) := do_60 DJ6_bitCount_0f7a4_22
theorem dJ6_bitCount_0f7a4_23 : decode cJ6_bitCount_0f7a4 23 = .ok (.istore_n 0, 1) := do_3b DJ6_bitCount_0f7a4_23
theorem dJ6_bitCount_0f7a4_24 : decode cJ6_bitCount_0f7a4 24 = .ok (.iload_n 0, 1) := do_1a DJ6_bitCount_0f7a4_24
theorem dJ6_bitCount_0f7a4_25 : decode cJ6_bitCount_0f7a4 25 = .ok (.iload_n 0, 1) := do_1a DJ6_bitCount_0f7a4_25
theorem dJ6_bitCount_0f7a4_26 : decode cJ6_bitCount_0f7a4 26 = .ok (.iconst 4, 1) := do_07 DJ6_bitCount_0f7a4_26
theorem dJ6_bitCount_0f7a4_27 : decode cJ6_bitCount_0f7a4 27 = .ok (.iushr, 1) := do_7c DJ6_bitCount_0f7a4_27
theorem dJ6_bitCount_0f7a4_28 : decode cJ6_bitCount_0f7a4 28 = .ok (.iadd, 1) := do_60 DJ6_bitCount_0f7a4_28
theorem dJ6_bitCount_0f7a4_29 : decode cJ6_bitCount_0f7a4 29 = .ok (.ldc_w 267, 3) := do_13 DJ6_bitCount_0f7a4_29
theorem dJ6_bitCount_0f7a4_32 : decode cJ6_bitCount_0f7a4 32 = .ok (.iand, 1) := do_7e DJ6_bitCount_0f7a4_32
theorem dJ6_bitCount_0f7a4_33 : decode cJ6_bitCount_0f7a4 33 = .ok (.istore_n 0, 1) := do_3b DJ6_bitCount_0f7a4_33
theorem dJ6_bitCount_0f7a4_34 : decode cJ6_bitCount_0f7a4 34 = .ok (.iload_n 0, 1) := do_1a DJ6_bitCount_0f7a4_34
theorem dJ6_bitCount_0f7a4_35 : decode cJ6_bitCount_0f7a4 35 = .ok (.iload_n 0, 1) := do_1a DJ6_bitCount_0f7a4_35
theorem dJ6_bitCount_0f7a4_36 : decode cJ6_bitCount_0f7a4 36 = .ok (.bipush 8, 2) := do_10 DJ6_bitCount_0f7a4_36 (by decide +kernel)
theorem dJ6_bitCount_0f7a4_38 : decode cJ6_bitCount_0f7a4 38 = .ok (.iushr, 1) := do_7c DJ6_bitCount_0f7a4_38
theorem dJ6_bitCount_0f7a4_39 : decode cJ6_bitCount_0f7a4 39 = .ok (.iadd, 1) := do_60 DJ6_bitCount_0f7a4_39
theorem dJ6_bitCount_0f7a4_40 : decode cJ6_bitCount_0f7a4 40 = .ok (.istore_n 0, 1) := do_3b DJ6_bitCount_0f7a4_40
theorem dJ6_bitCount_0f7a4_41 : decode cJ6_bitCount_0f7a4 41 = .ok (.iload_n 0, 1) := do_1a DJ6_bitCount_0f7a4_41
theorem dJ6_bitCount_0f7a4_42 : decode cJ6_bitCount_0f7a4 42 = .ok (.iload_n 0, 1) := do_1a DJ6_bitCount_0f7a4_42
theorem dJ6_bitCount_0f7a4_43 : decode cJ6_bitCount_0f7a4 43 = .ok (.bipush 16, 2) := do_10 DJ6_bitCount_0f7a4_43 (by decide +kernel)
theorem dJ6_bitCount_0f7a4_45 : decode cJ6_bitCount_0f7a4 45 = .ok (.iushr, 1) := do_7c DJ6_bitCount_0f7a4_45
theorem dJ6_bitCount_0f7a4_46 : decode cJ6_bitCount_0f7a4 46 = .ok (.iadd, 1) := do_60 DJ6_bitCount_0f7a4_46
theorem dJ6_bitCount_0f7a4_47 : decode cJ6_bitCount_0f7a4 47 = .ok (.istore_n 0, 1) := do_3b DJ6_bitCount_0f7a4_47
theorem dJ6_bitCount_0f7a4_48 : decode cJ6_bitCount_0f7a4 48 = .ok (.iload_n 0, 1) := do_1a DJ6_bitCount_0f7a4_48
theorem dJ6_bitCount_0f7a4_49 : decode cJ6_bitCount_0f7a4 49 = .ok (.bipush 63, 2) := do_10 DJ6_bitCount_0f7a4_49 (by decide +kernel)
theorem dJ6_bitCount_0f7a4_51 : decode cJ6_bitCount_0f7a4 51 = .ok (.iand, 1) := do_7e DJ6_bitCount_0f7a4_51
theorem dJ6_bitCount_0f7a4_52 : decode cJ6_bitCount_0f7a4 52 = .ok (.ireturn, 1) := do_ac DJ6_bitCount_0f7a4_52
def TJ9_floorMod_f86c9_28 : List UInt8 := []
def TJ9_floorMod_f86c9_27 : List UInt8 := 173 :: TJ9_floorMod_f86c9_28
def TJ9_floorMod_f86c9_25 : List UInt8 := 22 :: 4 :: TJ9_floorMod_f86c9_27
def TJ9_floorMod_f86c9_24 : List UInt8 := 173 :: TJ9_floorMod_f86c9_25
def TJ9_floorMod_f86c9_23 : List UInt8 := 97 :: TJ9_floorMod_f86c9_24
def TJ9_floorMod_f86c9_22 : List UInt8 := 32 :: TJ9_floorMod_f86c9_23
def TJ9_floorMod_f86c9_20 : List UInt8 := 22 :: 4 :: TJ9_floorMod_f86c9_22
def TJ9_floorMod_f86c9_17 : List UInt8 := 153 :: 0 :: 8 :: TJ9_floorMod_f86c9_20
def TJ9_floorMod_f86c9_16 : List UInt8 := 148 :: TJ9_floorMod_f86c9_17
def TJ9_floorMod_f86c9_15 : List UInt8 := 9 :: TJ9_floorMod_f86c9_16
def TJ9_floorMod_f86c9_13 : List UInt8 := 22 :: 4 :: TJ9_floorMod_f86c9_15
def TJ9_floorMod_f86c9_10 : List UInt8 := 156 :: 0 :: 15 :: TJ9_floorMod_f86c9_13
def TJ9_floorMod_f86c9_9 : List UInt8 := 148 :: TJ9_floorMod_f86c9_10
def TJ9_floorMod_f86c9_8 : List UInt8 := 9 :: TJ9_floorMod_f86c9_9
def TJ9_floorMod_f86c9_7 : List UInt8 := 131 :: TJ9_floorMod_f86c9_8
def TJ9_floorMod_f86c9_6 : List UInt8 := 32 :: TJ9_floorMod_f86c9_7
def TJ9_floorMod_f86c9_5 : List UInt8 := 30 :: TJ9_floorMod_f86c9_6
def TJ9_floorMod_f86c9_3 : List UInt8 := 55 :: 4 :: TJ9_floorMod_f86c9_5
def TJ9_floorMod_f86c9_2 : List UInt8 := 113 :: TJ9_floorMod_f86c9_3
def TJ9_floorMod_f86c9_1 : List UInt8 := 32 :: TJ9_floorMod_f86c9_2
def TJ9_floorMod_f86c9_0 : List UInt8 := 30 :: TJ9_floorMod_f86c9_1
theorem DJ9_floorMod_f86c9_0 : cJ9_floorMod_f86c9.data.toList.drop 0 = TJ9_floorMod_f86c9_0 := by decide +kernel
theorem DJ9_floorMod_f86c9_1 : cJ9_floorMod_f86c9.data.toList.drop 1 = TJ9_floorMod_f86c9_1 := dr1 DJ9_floorMod_f86c9_0
theorem DJ9_floorMod_f86c9_2 : cJ9_floorMod_f86c9.data.toList.drop 2 = TJ9_floorMod_f86c9_2 := dr1 DJ9_floorMod_f86c9_1
theorem DJ9_floorMod_f86c9_3 : cJ9_floorMod_f86c9.data.toList.drop 3 = TJ9_floorMod_f86c9_3 := dr1 DJ9_floorMod_f86c9_2
theorem DJ9_floorMod_f86c9_5 : cJ9_floorMod_f86c9.data.toList.drop 5 = TJ9_floorMod_f86c9_5 := dr2 DJ9_floorMod_f86c9_3
theorem DJ9_floorMod_f86c9_6 : cJ9_floorMod_f86c9.data.toList.drop 6 = TJ9_floorMod_f86c9_6 := dr1 DJ9_floorMod_f86c9_5
theorem DJ9_floorMod_f86c9_7 : cJ9_floorMod_f86c9.data.toList.drop 7 = TJ9_floorMod_f86c9_7 := dr1 DJ9_floorMod_f86c9_6
theorem DJ9_floorMod_f86c9_8 : cJ9_floorMod_f86c9.data.toList.drop 8 = TJ9_floorMod_f86c9_8 := dr1 DJ9_floorMod_f86c9_7
theorem DJ9_floorMod_f86c9_9 : cJ9_floorMod_f86c9.data.toList.drop 9 = TJ9_floorMod_f86c9_9 := dr1 DJ9_floorMod_f86c9_8
theorem DJ9_floorMod_f86c9_10 : cJ9_floorMod_f86c9.data.toList.drop 10 = TJ9_floorMod_f86c9_10 := dr1 DJ9_floorMod_f86c9_9
theorem DJ9_floorMod_f86c9_13 : cJ9_floorMod_f86c9.data.toList.drop 13 = TJ9_floorMod_f86c9_13 := dr3 DJ9_floorMod_f86c9_10
theorem DJ9_floorMod_f86c9_15 : cJ9_floorMod_f86c9.data.toList.drop 15 = TJ9_floorMod_f86c9_15 := dr2 DJ9_floorMod_f86c9_13
theorem DJ9_floorMod_f86c9_16 : cJ9_floorMod_f86c9.data.toList.drop 16 = TJ9_floorMod_f86c9_16 := dr1 DJ9_floorMod_f86c9_15
theorem DJ9_floorMod_f86c9_17 : cJ9_floorMod_f86c9.data.toList.drop 17 = TJ9_floorMod_f86c9_17 := dr1 DJ9_floorMod_f86c9_16
theorem DJ9_floorMod_f86c9_20 : cJ9_floorMod_f86c9.data.toList.drop 20 = TJ9_floorMod_f86c9_20 := dr3 DJ9_floorMod_f86c9_17
theorem DJ9_floorMod_f86c9_22 : cJ9_floorMod_f86c9.data.toList.drop 22 = TJ9_floorMod_f86c9_22 := dr2 DJ9_floorMod_f86c9_20
theorem DJ9_floorMod_f86c9_23 : cJ9_floorMod_f86c9.data.toList.drop 23 = TJ9_floorMod_f86c9_23 := dr1 DJ9_floorMod_f86c9_22
theorem DJ9_floorMod_f86c9_24 : cJ9_floorMod_f86c9.data.toList.drop 24 = TJ9_floorMod_f86c9_24 := dr1 DJ9_floorMod_f86c9_23
theorem DJ9_floorMod_f86c9_25 : cJ9_floorMod_f86c9.data.toList.drop 25 = TJ9_floorMod_f86c9_25 := dr1 DJ9_floorMod_f86c9_24
theorem DJ9_floorMod_f86c9_27 : cJ9_floorMod_f86c9.data.toList.drop 27 = TJ9_floorMod_f86c9_27 := dr2 DJ9_floorMod_f86c9_25
theorem dJ9_floorMod_f86c9_0 : decode cJ9_floorMod_f86c9 0 = .ok (.lload_n 0, 1) := do_1e DJ9_floorMod_f86c9_0
theorem dJ9_floorMod_f86c9_1 : decode cJ9_floorMod_f86c9 1 = .ok (.lload_n 2, 1) := do_20 DJ9_floorMod_f86c9_1
theorem dJ9_floorMod_f86c9_2 : decode cJ9_floorMod_f86c9 2 = .ok (.lrem, 1) := do_71 DJ9_floorMod_f86c9_2
theorem dJ9_floorMod_f86c9_3 : decode cJ9_floorMod_f86c9 3 = .ok (.lstore 4, 2) := do_37 DJ9_floorMod_f86c9_3
theorem dJ9_floorMod_f86c9_5 : decode cJ9_floorMod_f86c9 5 = .ok (.lload_n 0, 1) := do_1e DJ9_floorMod_f86c9_5
theorem dJ9_floorMod_f86c9_6 : decode cJ9_floorMod_f86c9 6 = .ok (.lload_n 2, 1) := do_20 DJ9_floorMod_f86c9_6
theorem dJ9_floorMod_f86c9_7 : decode cJ9_floorMod_f86c9 7 = .ok (.lxor, 1) := do_83 DJ9_floorMod_f86c9_7
theorem dJ9_floorMod_f86c9_8 : decode cJ9_floorMod_f86c9 8 = .ok (.lconst 0, 1) := do_09 DJ9_floorMod_f86c9_8
theorem dJ9_floorMod_f86c9_9 : decode cJ9_floorMod_f86c9 9 = .ok (.lcmp, 1) := do_94 DJ9_floorMod_f86c9_9
theorem dJ9_floorMod_f86c9_10 : decode cJ9_floorMod_f86c9 10 = .ok (.ifCond .ge 15, 3) := do_9c DJ9_floorMod_f86c9_10 (by decide +kernel)
theorem dJ9_floorMod_f86c9_13 : decode cJ9_floorMod_f86c9 13 = .ok (.lload 4, 2) := do_16 DJ9_floorMod_f86c9_13
theorem dJ9_floorMod_f86c9_15 : decode cJ9_floorMod_f86c9 15 = .ok (.lconst 0, 1) := do_09 DJ9_floorMod_f86c9_15
theorem dJ9_floorMod_f86c9_16 : decode cJ9_floorMod_f86c9 16 = .ok (.lcmp, 1) := do_94 DJ9_floorMod_f86c9_16
theorem dJ9_floorMod_f86c9_17 : decode cJ9_floorMod_f86c9 17 = .ok (.ifCond .eq 8, 3) := do_99 DJ9_floorMod_f86c9_17 (by decide +kernel)
theorem dJ9_floorMod_f86c9_20 : decode cJ9_floorMod_f86c9 20 = .ok (.lload 4, 2) := do_16 DJ9_floorMod_f86c9_20
theorem dJ9_floorMod_f86c9_22 : decode cJ9_floorMod_f86c9 22 = .ok (.lload_n 2, 1) := do_20 DJ9_floorMod_f86c9_22
theorem dJ9_floorMod_f86c9_23 : decode cJ9_floorMod_f86c9 23 = .ok (.ladd, 1) := do_61 DJ9_floorMod_f86c9_23
theorem dJ9_floorMod_f86c9_24 : decode cJ9_floorMod_f86c9 24 = .ok (.lreturn, 1) := do_ad DJ9_floorMod_f86c9_24
theorem dJ9_floorMod_f86c9_25 : decode cJ9_floorMod_f86c9 25 = .ok (.lload 4, 2) := do_16 DJ9_floorMod_f86c9_25
theorem dJ9_floorMod_f86c9_27 : decode cJ9_floorMod_f86c9 27 = .ok (.lreturn, 1) := do_ad DJ9_floorMod_f86c9_27
def TJ9_abs_0f7a4_11 : List UInt8 := []
def TJ9_abs_0f7a4_10 : List UInt8 := 172 :: TJ9_abs_0f7a4_11
def TJ9_abs_0f7a4_9 : List UInt8 := 26 :: TJ9_abs_0f7a4_10
def TJ9_abs_0f7a4_6 : List UInt8 := 167 :: 0 :: 4 :: TJ9_abs_0f7a4_9
def TJ9_abs_0f7a4_5 : List UInt8 := 116 :: TJ9_abs_0f7a4_6
def TJ9_abs_0f7a4_4 : List UInt8 := 26 :: TJ9_abs_0f7a4_5
def TJ9_abs_0f7a4_1 : List UInt8 := 156 :: 0 :: 8 :: TJ9_abs_0f7a4_4
def TJ9_abs_0f7a4_0 : List UInt8 := 26 :: TJ9_abs_0f7a4_1
theorem DJ9_abs_0f7a4_0 : cJ9_abs_0f7a4.data.toList.drop 0 = TJ9_abs_0f7a4_0 := by decide +kernel
theorem DJ9_abs_0f7a4_1 : cJ9_abs_0f7a4.data.toList.drop 1 = TJ9_abs_0f7a4_1 := dr1 DJ9_abs_0f7a4_0
theorem DJ9_abs_0f7a4_4 : cJ9_abs_0f7a4.data.toList.drop 4 = TJ9_abs_0f7a4_4 := dr3 DJ9_abs_0f7a4_1
theorem DJ9_abs_0f7a4_5 : cJ9_abs_0f7a4.data.toList.drop 5 = TJ9_abs_0f7a4_5 := dr1 DJ9_abs_0f7a4_4
theorem DJ9_abs_0f7a4_6 : cJ9_abs_0f7a4.data.toList.drop 6 = TJ9_abs_0f7a4_6 := dr1 DJ9_abs_0f7a4_5
theorem DJ9_abs_0f7a4_9 : cJ9_abs_0f7a4.data.toList.drop 9 = TJ9_abs_0f7a4_9 := dr3 DJ9_abs_0f7a4_6
theorem DJ9_abs_0f7a4_10 : cJ9_abs_0f7a4.data.toList.drop 10 = TJ9_abs_0f7a4_10 := dr1 DJ9_abs_0f7a4_9
theorem dJ9_abs_0f7a4_0 : decode cJ9_abs_0f7a4 0 = .ok (.iload_n 0, 1) := do_1a DJ9_abs_0f7a4_0
theorem dJ9_abs_0f7a4_1 : decode cJ9_abs_0f7a4 1 = .ok (.ifCond .ge 8, 3) := do_9c DJ9_abs_0f7a4_1 (by decide +kernel)
theorem dJ9_abs_0f7a4_4 : decode cJ9_abs_0f7a4 4 = .ok (.iload_n 0, 1) := do_1a DJ9_abs_0f7a4_4
theorem dJ9_abs_0f7a4_5 : decode cJ9_abs_0f7a4 5 = .ok (.ineg, 1) := do_74 DJ9_abs_0f7a4_5
theorem dJ9_abs_0f7a4_6 : decode cJ9_abs_0f7a4 6 = .ok (.goto 4, 3) := do_a7 DJ9_abs_0f7a4_6 (by decide +kernel)
theorem dJ9_abs_0f7a4_9 : decode cJ9_abs_0f7a4 9 = .ok (.iload_n 0, 1) := do_1a DJ9_abs_0f7a4_9
theorem dJ9_abs_0f7a4_10 : decode cJ9_abs_0f7a4 10 = .ok (.ireturn, 1) := do_ac DJ9_abs_0f7a4_10
def TJ9_max_7cf53_11 : List UInt8 := []
def TJ9_max_7cf53_10 : List UInt8 := 172 :: TJ9_max_7cf53_11
def TJ9_max_7cf53_9 : List UInt8 := 27 :: TJ9_max_7cf53_10
def TJ9_max_7cf53_6 : List UInt8 := 167 :: 0 :: 4 :: TJ9_max_7cf53_9
def TJ9_max_7cf53_5 : List UInt8 := 26 :: TJ9_max_7cf53_6
def TJ9_max_7cf53_2 : List UInt8 := 161 :: 0 :: 7 :: TJ9_max_7cf53_5
def TJ9_max_7cf53_1 : List UInt8 := 27 :: TJ9_max_7cf53_2
def TJ9_max_7cf53_0 : List UInt8 := 26 :: TJ9_max_7cf53_1
theorem DJ9_max_7cf53_0 : cJ9_max_7cf53.data.toList.drop 0 = TJ9_max_7cf53_0 := by decide +kernel
theorem DJ9_max_7cf53_1 : cJ9_max_7cf53.data.toList.drop 1 = TJ9_max_7cf53_1 := dr1 DJ9_max_7cf53_0
theorem DJ9_max_7cf53_2 : cJ9_max_7cf53.data.toList.drop 2 = TJ9_max_7cf53_2 := dr1 DJ9_max_7cf53_1
theorem DJ9_max_7cf53_5 : cJ9_max_7cf53.data.toList.drop 5 = TJ9_max_7cf53_5 := dr3 DJ9_max_7cf53_2
theorem DJ9_max_7cf53_6 : cJ9_max_7cf53.data.toList.drop 6 = TJ9_max_7cf53_6 := dr1 DJ9_max_7cf53_5
theorem DJ9_max_7cf53_9 : cJ9_max_7cf53.data.toList.drop 9 = TJ9_max_7cf53_9 := dr3 DJ9_max_7cf53_6
theorem DJ9_max_7cf53_10 : cJ9_max_7cf53.data.toList.drop 10 = TJ9_max_7cf53_10 := dr1 DJ9_max_7cf53_9
theorem dJ9_max_7cf53_0 : decode cJ9_max_7cf53 0 = .ok (.iload_n 0, 1) := do_1a DJ9_max_7cf53_0
theorem dJ9_max_7cf53_1 : decode cJ9_max_7cf53 1 = .ok (.iload_n 1, 1) := do_1b DJ9_max_7cf53_1
theorem dJ9_max_7cf53_2 : decode cJ9_max_7cf53 2 = .ok (.if_icmp .lt 7, 3) := do_a1 DJ9_max_7cf53_2 (by decide +kernel)
theorem dJ9_max_7cf53_5 : decode cJ9_max_7cf53 5 = .ok (.iload_n 0, 1) := do_1a DJ9_max_7cf53_5
theorem dJ9_max_7cf53_6 : decode cJ9_max_7cf53 6 = .ok (.goto 4, 3) := do_a7 DJ9_max_7cf53_6 (by decide +kernel)
theorem dJ9_max_7cf53_9 : decode cJ9_max_7cf53 9 = .ok (.iload_n 1, 1) := do_1b DJ9_max_7cf53_9
theorem dJ9_max_7cf53_10 : decode cJ9_max_7cf53 10 = .ok (.ireturn, 1) := do_ac DJ9_max_7cf53_10
def TJ9_min_7cf53_11 : List UInt8 := []
def TJ9_min_7cf53_10 : List UInt8 := 172 :: TJ9_min_7cf53_11
def TJ9_min_7cf53_9 : List UInt8 := 27 :: TJ9_min_7cf53_10
def TJ9_min_7cf53_6 : List UInt8 := 167 :: 0 :: 4 :: TJ9_min_7cf53_9
def TJ9_min_7cf53_5 : List UInt8 := 26 :: TJ9_min_7cf53_6
def TJ9_min_7cf53_2 : List UInt8 := 163 :: 0 :: 7 :: TJ9_min_7cf53_5
def TJ9_min_7cf53_1 : List UInt8 := 27 :: TJ9_min_7cf53_2
def TJ9_min_7cf53_0 : List UInt8 := 26 :: TJ9_min_7cf53_1
theorem DJ9_min_7cf53_0 : cJ9_min_7cf53.data.toList.drop 0 = TJ9_min_7cf53_0 := by decide +kernel
theorem DJ9_min_7cf53_1 : cJ9_min_7cf53.data.toList.drop 1 = TJ9_min_7cf53_1 := dr1 DJ9_min_7cf53_0
theorem DJ9_min_7cf53_2 : cJ9_min_7cf53.data.toList.drop 2 = TJ9_min_7cf53_2 := dr1 DJ9_min_7cf53_1
theorem DJ9_min_7cf53_5 : cJ9_min_7cf53.data.toList.drop 5 = TJ9_min_7cf53_5 := dr3 DJ9_min_7cf53_2
theorem DJ9_min_7cf53_6 : cJ9_min_7cf53.data.toList.drop 6 = TJ9_min_7cf53_6 := dr1 DJ9_min_7cf53_5
theorem DJ9_min_7cf53_9 : cJ9_min_7cf53.data.toList.drop 9 = TJ9_min_7cf53_9 := dr3 DJ9_min_7cf53_6
theorem DJ9_min_7cf53_10 : cJ9_min_7cf53.data.toList.drop 10 = TJ9_min_7cf53_10 := dr1 DJ9_min_7cf53_9
theorem dJ9_min_7cf53_0 : decode cJ9_min_7cf53 0 = .ok (.iload_n 0, 1) := do_1a DJ9_min_7cf53_0
theorem dJ9_min_7cf53_1 : decode cJ9_min_7cf53 1 = .ok (.iload_n 1, 1) := do_1b DJ9_min_7cf53_1
theorem dJ9_min_7cf53_2 : decode cJ9_min_7cf53 2 = .ok (.if_icmp .gt 7, 3) := do_a3 DJ9_min_7cf53_2 (by decide +kernel)
theorem dJ9_min_7cf53_5 : decode cJ9_min_7cf53 5 = .ok (.iload_n 0, 1) := do_1a DJ9_min_7cf53_5
theorem dJ9_min_7cf53_6 : decode cJ9_min_7cf53 6 = .ok (.goto 4, 3) := do_a7 DJ9_min_7cf53_6 (by decide +kernel)
theorem dJ9_min_7cf53_9 : decode cJ9_min_7cf53 9 = .ok (.iload_n 1, 1) := do_1b DJ9_min_7cf53_9
theorem dJ9_min_7cf53_10 : decode cJ9_min_7cf53 10 = .ok (.ireturn, 1) := do_ac DJ9_min_7cf53_10
def TJ0_init_81219_7 : List UInt8 := []
def TJ0_init_81219_6 : List UInt8 := 177 :: TJ0_init_81219_7
def TJ0_init_81219_3 : List UInt8 := 183 :: 1 :: 233 :: TJ0_init_81219_6
def TJ0_init_81219_2 : List UInt8 := 1 :: TJ0_init_81219_3
def TJ0_init_81219_1 : List UInt8 := 43 :: TJ0_init_81219_2
def TJ0_init_81219_0 : List UInt8 := 42 :: TJ0_init_81219_1
theorem DJ0_init_81219_0 : cJ0_init_81219.data.toList.drop 0 = TJ0_init_81219_0 := by decide +kernel
theorem DJ0_init_81219_1 : cJ0_init_81219.data.toList.drop 1 = TJ0_init_81219_1 := dr1 DJ0_init_81219_0
theorem DJ0_init_81219_2 : cJ0_init_81219.data.toList.drop 2 = TJ0_init_81219_2 := dr1 DJ0_init_81219_1
theorem DJ0_init_81219_3 : cJ0_init_81219.data.toList.drop 3 = TJ0_init_81219_3 := dr1 DJ0_init_81219_2
theorem DJ0_init_81219_6 : cJ0_init_81219.data.toList.drop 6 = TJ0_init_81219_6 := dr3 DJ0_init_81219_3
theorem dJ0_init_81219_0 : decode cJ0_init_81219 0 = .ok (.aload_n 0, 1) := do_2a DJ0_init_81219_0
theorem dJ0_init_81219_1 : decode cJ0_init_81219 1 = .ok (.aload_n 1, 1) := do_2b DJ0_init_81219_1
theorem dJ0_init_81219_2 : decode cJ0_init_81219 2 = .ok (.aconst_null, 1) := do_01 DJ0_init_81219_2
theorem dJ0_init_81219_3 : decode cJ0_init_81219 3 = .ok (.invokespecial 489, 3) := do_b7 DJ0_init_81219_3
theorem dJ0_init_81219_6 : decode cJ0_init_81219 6 = .ok (.return_, 1) := do_b1 DJ0_init_81219_6
def TJ0_length_8abf5_11 : List UInt8 := []
def TJ0_length_8abf5_10 : List UInt8 := 172 :: TJ0_length_8abf5_11
def TJ0_length_8abf5_9 : List UInt8 := 122 :: TJ0_length_8abf5_10
def TJ0_length_8abf5_6 : List UInt8 := 182 :: 1 :: 79 :: TJ0_length_8abf5_9
def TJ0_length_8abf5_5 : List UInt8 := 42 :: TJ0_length_8abf5_6
def TJ0_length_8abf5_4 : List UInt8 := 190 :: TJ0_length_8abf5_5
def TJ0_length_8abf5_1 : List UInt8 := 180 :: 0 :: 9 :: TJ0_length_8abf5_4
def TJ0_length_8abf5_0 : List UInt8 := 42 :: TJ0_length_8abf5_1
theorem DJ0_length_8abf5_0 : cJ0_length_8abf5.data.toList.drop 0 = TJ0_length_8abf5_0 := by decide +kernel
theorem DJ0_length_8abf5_1 : cJ0_length_8abf5.data.toList.drop 1 = TJ0_length_8abf5_1 := dr1 DJ0_length_8abf5_0
theorem DJ0_length_8abf5_4 : cJ0_length_8abf5.data.toList.drop 4 = TJ0_length_8abf5_4 := dr3 DJ0_length_8abf5_1
theorem DJ0_length_8abf5_5 : cJ0_length_8abf5.data.toList.drop 5 = TJ0_length_8abf5_5 := dr1 DJ0_length_8abf5_4
theorem DJ0_length_8abf5_6 : cJ0_length_8abf5.data.toList.drop 6 = TJ0_length_8abf5_6 := dr1 DJ0_length_8abf5_5
theorem DJ0_length_8abf5_9 : cJ0_length_8abf5.data.toList.drop 9 = TJ0_length_8abf5_9 := dr3 DJ0_length_8abf5_6
theorem DJ0_length_8abf5_10 : cJ0_length_8abf5.data.toList.drop 10 = TJ0_length_8abf5_10 := dr1 DJ0_length_8abf5_9
theorem dJ0_length_8abf5_0 : decode cJ0_length_8abf5 0 = .ok (.aload_n 0, 1) := do_2a DJ0_length_8abf5_0
theorem dJ0_length_8abf5_1 : decode cJ0_length_8abf5 1 = .ok (.getfield 9, 3) := do_b4 DJ0_length_8abf5_1
theorem dJ0_length_8abf5_4 : decode cJ0_length_8abf5 4 = .ok (.arraylength, 1) := do_be DJ0_length_8abf5_4
theorem dJ0_length_8abf5_5 : decode cJ0_length_8abf5 5 = .ok (.aload_n 0, 1) := do_2a DJ0_length_8abf5_5
theorem dJ0_length_8abf5_6 : decode cJ0_length_8abf5 6 = .ok (.invokevirtual 335, 3) := do_b6 DJ0_length_8abf5_6
theorem dJ0_length_8abf5_9 : decode cJ0_length_8abf5 9 = .ok (.ishr, 1) := do_7a DJ0_length_8abf5_9
theorem dJ0_length_8abf5_10 : decode cJ0_length_8abf5 10 = .ok (.ireturn, 1) := do_ac DJ0_length_8abf5_10
def TJ0_charAt_5068e_25 : List UInt8 := []
def TJ0_charAt_5068e_24 : List UInt8 := 172 :: TJ0_charAt_5068e_25
def TJ0_charAt_5068e_21 : List UInt8 := 184 :: 1 :: 242 :: TJ0_charAt_5068e_24
def TJ0_charAt_5068e_20 : List UInt8 := 27 :: TJ0_charAt_5068e_21
def TJ0_charAt_5068e_17 : List UInt8 := 180 :: 0 :: 9 :: TJ0_charAt_5068e_20
def TJ0_charAt_5068e_16 : List UInt8 := 42 :: TJ0_charAt_5068e_17
def TJ0_charAt_5068e_15 : List UInt8 := 172 :: TJ0_charAt_5068e_16
def TJ0_charAt_5068e_12 : List UInt8 := 184 :: 1 :: 239 :: TJ0_charAt_5068e_15
def TJ0_charAt_5068e_11 : List UInt8 := 27 :: TJ0_charAt_5068e_12
def TJ0_charAt_5068e_8 : List UInt8 := 180 :: 0 :: 9 :: TJ0_charAt_5068e_11
def TJ0_charAt_5068e_7 : List UInt8 := 42 :: TJ0_charAt_5068e_8
def TJ0_charAt_5068e_4 : List UInt8 := 153 :: 0 :: 12 :: TJ0_charAt_5068e_7
def TJ0_charAt_5068e_1 : List UInt8 := 182 :: 1 :: 236 :: TJ0_charAt_5068e_4
def TJ0_charAt_5068e_0 : List UInt8 := 42 :: TJ0_charAt_5068e_1
theorem DJ0_charAt_5068e_0 : cJ0_charAt_5068e.data.toList.drop 0 = TJ0_charAt_5068e_0 := by decide +kernel
theorem DJ0_charAt_5068e_1 : cJ0_charAt_5068e.data.toList.drop 1 = TJ0_charAt_5068e_1 := dr1 DJ0_charAt_5068e_0
theorem DJ0_charAt_5068e_4 : cJ0_charAt_5068e.data.toList.drop 4 = TJ0_charAt_5068e_4 := dr3 DJ0_charAt_5068e_1
theorem DJ0_charAt_5068e_7 : cJ0_charAt_5068e.data.toList.drop 7 = TJ0_charAt_5068e_7 := dr3 DJ0_charAt_5068e_4
theorem DJ0_charAt_5068e_8 : cJ0_charAt_5068e.data.toList.drop 8 = TJ0_charAt_5068e_8 := dr1 DJ0_charAt_5068e_7
theorem DJ0_charAt_5068e_11 : cJ0_charAt_5068e.data.toList.drop 11 = TJ0_charAt_5068e_11 := dr3 DJ0_charAt_5068e_8
theorem DJ0_charAt_5068e_12 : cJ0_charAt_5068e.data.toList.drop 12 = TJ0_charAt_5068e_12 := dr1 DJ0_charAt_5068e_11
theorem DJ0_charAt_5068e_15 : cJ0_charAt_5068e.data.toList.drop 15 = TJ0_charAt_5068e_15 := dr3 DJ0_charAt_5068e_12
theorem DJ0_charAt_5068e_16 : cJ0_charAt_5068e.data.toList.drop 16 = TJ0_charAt_5068e_16 := dr1 DJ0_charAt_5068e_15
theorem DJ0_charAt_5068e_17 : cJ0_charAt_5068e.data.toList.drop 17 = TJ0_charAt_5068e_17 := dr1 DJ0_charAt_5068e_16
theorem DJ0_charAt_5068e_20 : cJ0_charAt_5068e.data.toList.drop 20 = TJ0_charAt_5068e_20 := dr3 DJ0_charAt_5068e_17
theorem DJ0_charAt_5068e_21 : cJ0_charAt_5068e.data.toList.drop 21 = TJ0_charAt_5068e_21 := dr1 DJ0_charAt_5068e_20
theorem DJ0_charAt_5068e_24 : cJ0_charAt_5068e.data.toList.drop 24 = TJ0_charAt_5068e_24 := dr3 DJ0_charAt_5068e_21
theorem dJ0_charAt_5068e_0 : decode cJ0_charAt_5068e 0 = .ok (.aload_n 0, 1) := do_2a DJ0_charAt_5068e_0
theorem dJ0_charAt_5068e_1 : decode cJ0_charAt_5068e 1 = .ok (.invokevirtual 492, 3) := do_b6 DJ0_charAt_5068e_1
theorem dJ0_charAt_5068e_4 : decode cJ0_charAt_5068e 4 = .ok (.ifCond .eq 12, 3) := do_99 DJ0_charAt_5068e_4 (by decide +kernel)
theorem dJ0_charAt_5068e_7 : decode cJ0_charAt_5068e 7 = .ok (.aload_n 0, 1) := do_2a DJ0_charAt_5068e_7
theorem dJ0_charAt_5068e_8 : decode cJ0_charAt_5068e 8 = .ok (.getfield 9, 3) := do_b4 DJ0_charAt_5068e_8
theorem dJ0_charAt_5068e_11 : decode cJ0_charAt_5068e 11 = .ok (.iload_n 1, 1) := do_1b DJ0_charAt_5068e_11
theorem dJ0_charAt_5068e_12 : decode cJ0_charAt_5068e 12 = .ok (.invokestatic 495, 3) := do_b8 DJ0_charAt_5068e_12
theorem dJ0_charAt_5068e_15 : decode cJ0_charAt_5068e 15 = .ok (.ireturn, 1) := do_ac DJ0_charAt_5068e_15
theorem dJ0_charAt_5068e_16 : decode cJ0_charAt_5068e 16 = .ok (.aload_n 0, 1) := do_2a DJ0_charAt_5068e_16
theorem dJ0_charAt_5068e_17 : decode cJ0_charAt_5068e 17 = .ok (.getfield 9, 3) := do_b4 DJ0_charAt_5068e_17
theorem dJ0_charAt_5068e_20 : decode cJ0_charAt_5068e 20 = .ok (.iload_n 1, 1) := do_1b DJ0_charAt_5068e_20
theorem dJ0_charAt_5068e_21 : decode cJ0_charAt_5068e 21 = .ok (.invokestatic 498, 3) := do_b8 DJ0_charAt_5068e_21
theorem dJ0_charAt_5068e_24 : decode cJ0_charAt_5068e 24 = .ok (.ireturn, 1) := do_ac DJ0_charAt_5068e_24
def TJ0_getBytes_840e7_44 : List UInt8 := []
def TJ0_getBytes_840e7_43 : List UInt8 := 177 :: TJ0_getBytes_840e7_44
def TJ0_getBytes_840e7_40 : List UInt8 := 184 :: 0 :: 106 :: TJ0_getBytes_840e7_43
def TJ0_getBytes_840e7_39 : List UInt8 := 190 :: TJ0_getBytes_840e7_40
def TJ0_getBytes_840e7_36 : List UInt8 := 180 :: 0 :: 9 :: TJ0_getBytes_840e7_39
def TJ0_getBytes_840e7_35 : List UInt8 := 42 :: TJ0_getBytes_840e7_36
def TJ0_getBytes_840e7_34 : List UInt8 := 28 :: TJ0_getBytes_840e7_35
def TJ0_getBytes_840e7_33 : List UInt8 := 43 :: TJ0_getBytes_840e7_34
def TJ0_getBytes_840e7_32 : List UInt8 := 3 :: TJ0_getBytes_840e7_33
def TJ0_getBytes_840e7_29 : List UInt8 := 180 :: 0 :: 9 :: TJ0_getBytes_840e7_32
def TJ0_getBytes_840e7_28 : List UInt8 := 42 :: TJ0_getBytes_840e7_29
def TJ0_getBytes_840e7_25 : List UInt8 := 167 :: 0 :: 18 :: TJ0_getBytes_840e7_28
def TJ0_getBytes_840e7_22 : List UInt8 := 184 :: 0 :: 212 :: TJ0_getBytes_840e7_25
def TJ0_getBytes_840e7_21 : List UInt8 := 190 :: TJ0_getBytes_840e7_22
def TJ0_getBytes_840e7_18 : List UInt8 := 180 :: 0 :: 9 :: TJ0_getBytes_840e7_21
def TJ0_getBytes_840e7_17 : List UInt8 := 42 :: TJ0_getBytes_840e7_18
def TJ0_getBytes_840e7_16 : List UInt8 := 120 :: TJ0_getBytes_840e7_17
def TJ0_getBytes_840e7_15 : List UInt8 := 29 :: TJ0_getBytes_840e7_16
def TJ0_getBytes_840e7_14 : List UInt8 := 28 :: TJ0_getBytes_840e7_15
def TJ0_getBytes_840e7_13 : List UInt8 := 43 :: TJ0_getBytes_840e7_14
def TJ0_getBytes_840e7_12 : List UInt8 := 3 :: TJ0_getBytes_840e7_13
def TJ0_getBytes_840e7_9 : List UInt8 := 180 :: 0 :: 9 :: TJ0_getBytes_840e7_12
def TJ0_getBytes_840e7_8 : List UInt8 := 42 :: TJ0_getBytes_840e7_9
def TJ0_getBytes_840e7_5 : List UInt8 := 160 :: 0 :: 23 :: TJ0_getBytes_840e7_8
def TJ0_getBytes_840e7_4 : List UInt8 := 29 :: TJ0_getBytes_840e7_5
def TJ0_getBytes_840e7_1 : List UInt8 := 182 :: 1 :: 79 :: TJ0_getBytes_840e7_4
def TJ0_getBytes_840e7_0 : List UInt8 := 42 :: TJ0_getBytes_840e7_1
theorem DJ0_getBytes_840e7_0 : cJ0_getBytes_840e7.data.toList.drop 0 = TJ0_getBytes_840e7_0 := by decide +kernel
theorem DJ0_getBytes_840e7_1 : cJ0_getBytes_840e7.data.toList.drop 1 = TJ0_getBytes_840e7_1 := dr1 DJ0_getBytes_840e7_0
theorem DJ0_getBytes_840e7_4 : cJ0_getBytes_840e7.data.toList.drop 4 = TJ0_getBytes_840e7_4 := dr3 DJ0_getBytes_840e7_1
theorem DJ0_getBytes_840e7_5 : cJ0_getBytes_840e7.data.toList.drop 5 = TJ0_getBytes_840e7_5 := dr1 DJ0_getBytes_840e7_4
theorem DJ0_getBytes_840e7_8 : cJ0_getBytes_840e7.data.toList.drop 8 = TJ0_getBytes_840e7_8 := dr3 DJ0_getBytes_840e7_5
theorem DJ0_getBytes_840e7_9 : cJ0_getBytes_840e7.data.toList.drop 9 = TJ0_getBytes_840e7_9 := dr1 DJ0_getBytes_840e7_8
theorem DJ0_getBytes_840e7_12 : cJ0_getBytes_840e7.data.toList.drop 12 = TJ0_getBytes_840e7_12 := dr3 DJ0_getBytes_840e7_9
theorem DJ0_getBytes_840e7_13 : cJ0_getBytes_840e7.data.toList.drop 13 = TJ0_getBytes_840e7_13 := dr1 DJ0_getBytes_840e7_12
theorem DJ0_getBytes_840e7_14 : cJ0_getBytes_840e7.data.toList.drop 14 = TJ0_getBytes_840e7_14 := dr1 DJ0_getBytes_840e7_13
theorem DJ0_getBytes_840e7_15 : cJ0_getBytes_840e7.data.toList.drop 15 = TJ0_getBytes_840e7_15 := dr1 DJ0_getBytes_840e7_14
theorem DJ0_getBytes_840e7_16 : cJ0_getBytes_840e7.data.toList.drop 16 = TJ0_getBytes_840e7_16 := dr1 DJ0_getBytes_840e7_15
theorem DJ0_getBytes_840e7_17 : cJ0_getBytes_840e7.data.toList.drop 17 = TJ0_getBytes_840e7_17 := dr1 DJ0_getBytes_840e7_16
theorem DJ0_getBytes_840e7_18 : cJ0_getBytes_840e7.data.toList.drop 18 = TJ0_getBytes_840e7_18 := dr1 DJ0_getBytes_840e7_17
theorem DJ0_getBytes_840e7_21 : cJ0_getBytes_840e7.data.toList.drop 21 = TJ0_getBytes_840e7_21 := dr3 DJ0_getBytes_840e7_18
theorem DJ0_getBytes_840e7_22 : cJ0_getBytes_840e7.data.toList.drop 22 = TJ0_getBytes_840e7_22 := dr1 DJ0_getBytes_840e7_21
theorem DJ0_getBytes_840e7_25 : cJ0_getBytes_840e7.data.toList.drop 25 = TJ0_getBytes_840e7_25 := dr3 DJ0_getBytes_840e7_22
theorem DJ0_getBytes_840e7_28 : cJ0_getBytes_840e7.data.toList.drop 28 = TJ0_getBytes_840e7_28 := dr3 DJ0_getBytes_840e7_25
theorem DJ0_getBytes_840e7_29 : cJ0_getBytes_840e7.data.toList.drop 29 = TJ0_getBytes_840e7_29 := dr1 DJ0_getBytes_840e7_28
theorem DJ0_getBytes_840e7_32 : cJ0_getBytes_840e7.data.toList.drop 32 = TJ0_getBytes_840e7_32 := dr3 DJ0_getBytes_840e7_29
theorem DJ0_getBytes_840e7_33 : cJ0_getBytes_840e7.data.toList.drop 33 = TJ0_getBytes_840e7_33 := dr1 DJ0_getBytes_840e7_32
theorem DJ0_getBytes_840e7_34 : cJ0_getBytes_840e7.data.toList.drop 34 = TJ0_getBytes_840e7_34 := dr1 DJ0_getBytes_840e7_33
theorem DJ0_getBytes_840e7_35 : cJ0_getBytes_840e7.data.toList.drop 35 = TJ0_getBytes_840e7_35 := dr1 DJ0_getBytes_840e7_34
theorem DJ0_getBytes_840e7_36 : cJ0_getBytes_840e7.data.toList.drop 36 = TJ0_getBytes_840e7_36 := dr1 DJ0_getBytes_840e7_35
theorem DJ0_getBytes_840e7_39 : cJ0_getBytes_840e7.data.toList.drop 39 = TJ0_getBytes_840e7_39 := dr3 DJ0_getBytes_840e7_36
theorem DJ0_getBytes_840e7_40 : cJ0_getBytes_840e7.data.toList.drop 40 = TJ0_getBytes_840e7_40 := dr1 DJ0_getBytes_840e7_39
theorem DJ0_getBytes_840e7_43 : cJ0_getBytes_840e7.data.toList.drop 43 = TJ0_getBytes_840e7_43 := dr3 DJ0_getBytes_840e7_40
theorem dJ0_getBytes_840e7_0 : decode cJ0_getBytes_840e7 0 = .ok (.aload_n 0, 1) := do_2a DJ0_getBytes_840e7_0
theorem dJ0_getBytes_840e7_1 : decode cJ0_getBytes_840e7 1 = .ok (.invokevirtual 335, 3) := do_b6 DJ0_getBytes_840e7_1
theorem dJ0_getBytes_840e7_4 : decode cJ0_getBytes_840e7 4 = .ok (.iload_n 3, 1) := do_1d DJ0_getBytes_840e7_4
theorem dJ0_getBytes_840e7_5 : decode cJ0_getBytes_840e7 5 = .ok (.if_icmp .ne 23, 3) := do_a0 DJ0_getBytes_840e7_5 (by decide +kernel)
theorem dJ0_getBytes_840e7_8 : decode cJ0_getBytes_840e7 8 = .ok (.aload_n 0, 1) := do_2a DJ0_getBytes_840e7_8
theorem dJ0_getBytes_840e7_9 : decode cJ0_getBytes_840e7 9 = .ok (.getfield 9, 3) := do_b4 DJ0_getBytes_840e7_9
theorem dJ0_getBytes_840e7_12 : decode cJ0_getBytes_840e7 12 = .ok (.iconst 0, 1) := do_03 DJ0_getBytes_840e7_12
theorem dJ0_getBytes_840e7_13 : decode cJ0_getBytes_840e7 13 = .ok (.aload_n 1, 1) := do_2b DJ0_getBytes_840e7_13
theorem dJ0_getBytes_840e7_14 : decode cJ0_getBytes_840e7 14 = .ok (.iload_n 2, 1) := do_1c DJ0_getBytes_840e7_14
theorem dJ0_getBytes_840e7_15 : decode cJ0_getBytes_840e7 15 = .ok (.iload_n 3, 1) := do_1d DJ0_getBytes_840e7_15
theorem dJ0_getBytes_840e7_16 : decode cJ0_getBytes_840e7 16 = .ok (.ishl, 1) := do_78 DJ0_getBytes_840e7_16
theorem dJ0_getBytes_840e7_17 : decode cJ0_getBytes_840e7 17 = .ok (.aload_n 0, 1) := do_2a DJ0_getBytes_840e7_17
theorem dJ0_getBytes_840e7_18 : decode cJ0_getBytes_840e7 18 = .ok (.getfield 9, 3) := do_b4 DJ0_getBytes_840e7_18
theorem dJ0_getBytes_840e7_21 : decode cJ0_getBytes_840e7 21 = .ok (.arraylength, 1) := do_be DJ0_getBytes_840e7_21
theorem dJ0_getBytes_840e7_22 : decode cJ0_getBytes_840e7 22 = .ok (.invokestatic 212, 3) := do_b8 DJ0_getBytes_840e7_22
theorem dJ0_getBytes_840e7_25 : decode cJ0_getBytes_840e7 25 = .ok (.goto 18, 3) := do_a7 DJ0_getBytes_840e7_25 (by decide +kernel)
theorem dJ0_getBytes_840e7_28 : decode cJ0_getBytes_840e7 28 = .ok (.aload_n 0, 1) := do_2a DJ0_getBytes_840e7_28
theorem dJ0_getBytes_840e7_29 : decode cJ0_getBytes_840e7 29 = .ok (.getfield 9, 3) := do_b4 DJ0_getBytes_840e7_29
theorem dJ0_getBytes_840e7_32 : decode cJ0_getBytes_840e7 32 = .ok (.iconst 0, 1) := do_03 DJ0_getBytes_840e7_32
theorem dJ0_getBytes_840e7_33 : decode cJ0_getBytes_840e7 33 = .ok (.aload_n 1, 1) := do_2b DJ0_getBytes_840e7_33
theorem dJ0_getBytes_840e7_34 : decode cJ0_getBytes_840e7 34 = .ok (.iload_n 2, 1) := do_1c DJ0_getBytes_840e7_34
theorem dJ0_getBytes_840e7_35 : decode cJ0_getBytes_840e7 35 = .ok (.aload_n 0, 1) := do_2a DJ0_getBytes_840e7_35
theorem dJ0_getBytes_840e7_36 : decode cJ0_getBytes_840e7 36 = .ok (.getfield 9, 3) := do_b4 DJ0_getBytes_840e7_36
theorem dJ0_getBytes_840e7_39 : decode cJ0_getBytes_840e7 39 = .ok (.arraylength, 1) := do_be DJ0_getBytes_840e7_39
theorem dJ0_getBytes_840e7_40 : decode cJ0_getBytes_840e7 40 = .ok (.invokestatic 106, 3) := do_b8 DJ0_getBytes_840e7_40
theorem dJ0_getBytes_840e7_43 : decode cJ0_getBytes_840e7 43 = .ok (.return_, 1) := do_b1 DJ0_getBytes_840e7_43
def TJ0_init_db425_98 : List UInt8 := []
def TJ0_init_db425_97 : List UInt8 := 177 :: TJ0_init_db425_98
def TJ0_init_db425_94 : List UInt8 := 181 :: 0 :: 9 :: TJ0_init_db425_97
def TJ0_init_db425_91 : List UInt8 := 184 :: 0 :: 54 :: TJ0_init_db425_94
def TJ0_init_db425_90 : List UInt8 := 120 :: TJ0_init_db425_91
def TJ0_init_db425_89 : List UInt8 := 4 :: TJ0_init_db425_90
def TJ0_init_db425_87 : List UInt8 := 21 :: 4 :: TJ0_init_db425_89
def TJ0_init_db425_86 : List UInt8 := 3 :: TJ0_init_db425_87
def TJ0_init_db425_85 : List UInt8 := 45 :: TJ0_init_db425_86
def TJ0_init_db425_84 : List UInt8 := 42 :: TJ0_init_db425_85
def TJ0_init_db425_81 : List UInt8 := 181 :: 0 :: 15 :: TJ0_init_db425_84
def TJ0_init_db425_80 : List UInt8 := 4 :: TJ0_init_db425_81
def TJ0_init_db425_79 : List UInt8 := 42 :: TJ0_init_db425_80
def TJ0_init_db425_78 : List UInt8 := 177 :: TJ0_init_db425_79
def TJ0_init_db425_75 : List UInt8 := 181 :: 0 :: 15 :: TJ0_init_db425_78
def TJ0_init_db425_72 : List UInt8 := 184 :: 0 :: 47 :: TJ0_init_db425_75
def TJ0_init_db425_70 : List UInt8 := 21 :: 4 :: TJ0_init_db425_72
def TJ0_init_db425_67 : List UInt8 := 180 :: 0 :: 9 :: TJ0_init_db425_70
def TJ0_init_db425_66 : List UInt8 := 42 :: TJ0_init_db425_67
def TJ0_init_db425_65 : List UInt8 := 42 :: TJ0_init_db425_66
def TJ0_init_db425_62 : List UInt8 := 181 :: 0 :: 9 :: TJ0_init_db425_65
def TJ0_init_db425_59 : List UInt8 := 184 :: 4 :: 27 :: TJ0_init_db425_62
def TJ0_init_db425_57 : List UInt8 := 21 :: 4 :: TJ0_init_db425_59
def TJ0_init_db425_56 : List UInt8 := 3 :: TJ0_init_db425_57
def TJ0_init_db425_55 : List UInt8 := 45 :: TJ0_init_db425_56
def TJ0_init_db425_54 : List UInt8 := 42 :: TJ0_init_db425_55
def TJ0_init_db425_51 : List UInt8 := 153 :: 0 :: 28 :: TJ0_init_db425_54
def TJ0_init_db425_48 : List UInt8 := 180 :: 4 :: 24 :: TJ0_init_db425_51
def TJ0_init_db425_47 : List UInt8 := 43 :: TJ0_init_db425_48
def TJ0_init_db425_44 : List UInt8 := 153 :: 0 :: 35 :: TJ0_init_db425_47
def TJ0_init_db425_41 : List UInt8 := 178 :: 0 :: 38 :: TJ0_init_db425_44
def TJ0_init_db425_38 : List UInt8 := 167 :: 0 :: 59 :: TJ0_init_db425_41
def TJ0_init_db425_35 : List UInt8 := 181 :: 0 :: 9 :: TJ0_init_db425_38
def TJ0_init_db425_32 : List UInt8 := 184 :: 0 :: 54 :: TJ0_init_db425_35
def TJ0_init_db425_30 : List UInt8 := 21 :: 4 :: TJ0_init_db425_32
def TJ0_init_db425_29 : List UInt8 := 3 :: TJ0_init_db425_30
def TJ0_init_db425_28 : List UInt8 := 45 :: TJ0_init_db425_29
def TJ0_init_db425_27 : List UInt8 := 42 :: TJ0_init_db425_28
def TJ0_init_db425_24 : List UInt8 := 181 :: 0 :: 15 :: TJ0_init_db425_27
def TJ0_init_db425_23 : List UInt8 := 3 :: TJ0_init_db425_24
def TJ0_init_db425_22 : List UInt8 := 42 :: TJ0_init_db425_23
def TJ0_init_db425_19 : List UInt8 := 153 :: 0 :: 22 :: TJ0_init_db425_22
def TJ0_init_db425_16 : List UInt8 := 182 :: 4 :: 23 :: TJ0_init_db425_19
def TJ0_init_db425_15 : List UInt8 := 43 :: TJ0_init_db425_16
def TJ0_init_db425_13 : List UInt8 := 54 :: 4 :: TJ0_init_db425_15
def TJ0_init_db425_10 : List UInt8 := 182 :: 2 :: 37 :: TJ0_init_db425_13
def TJ0_init_db425_9 : List UInt8 := 43 :: TJ0_init_db425_10
def TJ0_init_db425_8 : List UInt8 := 78 :: TJ0_init_db425_9
def TJ0_init_db425_5 : List UInt8 := 182 :: 2 :: 40 :: TJ0_init_db425_8
def TJ0_init_db425_4 : List UInt8 := 43 :: TJ0_init_db425_5
def TJ0_init_db425_1 : List UInt8 := 183 :: 0 :: 1 :: TJ0_init_db425_4
def TJ0_init_db425_0 : List UInt8 := 42 :: TJ0_init_db425_1
theorem DJ0_init_db425_0 : cJ0_init_db425.data.toList.drop 0 = TJ0_init_db425_0 := by decide +kernel
theorem DJ0_init_db425_1 : cJ0_init_db425.data.toList.drop 1 = TJ0_init_db425_1 := dr1 DJ0_init_db425_0
theorem DJ0_init_db425_4 : cJ0_init_db425.data.toList.drop 4 = TJ0_init_db425_4 := dr3 DJ0_init_db425_1
theorem DJ0_init_db425_5 : cJ0_init_db425.data.toList.drop 5 = TJ0_init_db425_5 := dr1 DJ0_init_db425_4
theorem DJ0_init_db425_8 : cJ0_init_db425.data.toList.drop 8 = TJ0_init_db425_8 := dr3 DJ0_init_db425_5
theorem DJ0_init_db425_9 : cJ0_init_db425.data.toList.drop 9 = TJ0_init_db425_9 := dr1 DJ0_init_db425_8
theorem DJ0_init_db425_10 : cJ0_init_db425.data.toList.drop 10 = TJ0_init_db425_10 := dr1 DJ0_init_db425_9
theorem DJ0_init_db425_13 : cJ0_init_db425.data.toList.drop 13 = TJ0_init_db425_13 := dr3 DJ0_init_db425_10
theorem DJ0_init_db425_15 : cJ0_init_db425.data.toList.drop 15 = TJ0_init_db425_15 := dr2 DJ0_init_db425_13
theorem DJ0_init_db425_16 : cJ0_init_db425.data.toList.drop 16 = TJ0_init_db425_16 := dr1 DJ0_init_db425_15
theorem DJ0_init_db425_19 : cJ0_init_db425.data.toList.drop 19 = TJ0_init_db425_19 := dr3 DJ0_init_db425_16
theorem DJ0_init_db425_22 : cJ0_init_db425.data.toList.drop 22 = TJ0_init_db425_22 := dr3 DJ0_init_db425_19
theorem DJ0_init_db425_23 : cJ0_init_db425.data.toList.drop 23 = TJ0_init_db425_23 := dr1 DJ0_init_db425_22
theorem DJ0_init_db425_24 : cJ0_init_db425.data.toList.drop 24 = TJ0_init_db425_24 := dr1 DJ0_init_db425_23
theorem DJ0_init_db425_27 : cJ0_init_db425.data.toList.drop 27 = TJ0_init_db425_27 := dr3 DJ0_init_db425_24
theorem DJ0_init_db425_28 : cJ0_init_db425.data.toList.drop 28 = TJ0_init_db425_28 := dr1 DJ0_init_db425_27
theorem DJ0_init_db425_29 : cJ0_init_db425.data.toList.drop 29 = TJ0_init_db425_29 := dr1 DJ0_init_db425_28
theorem DJ0_init_db425_30 : cJ0_init_db425.data.toList.drop 30 = TJ0_init_db425_30 := dr1 DJ0_init_db425_29
theorem DJ0_init_db425_32 : cJ0_init_db425.data.toList.drop 32 = TJ0_init_db425_32 := dr2 DJ0_init_db425_30
theorem DJ0_init_db425_35 : cJ0_init_db425.data.toList.drop 35 = TJ0_init_db425_35 := dr3 DJ0_init_db425_32
theorem DJ0_init_db425_38 : cJ0_init_db425.data.toList.drop 38 = TJ0_init_db425_38 := dr3 DJ0_init_db425_35
theorem DJ0_init_db425_41 : cJ0_init_db425.data.toList.drop 41 = TJ0_init_db425_41 := dr3 DJ0_init_db425_38
theorem DJ0_init_db425_44 : cJ0_init_db425.data.toList.drop 44 = TJ0_init_db425_44 := dr3 DJ0_init_db425_41
theorem DJ0_init_db425_47 : cJ0_init_db425.data.toList.drop 47 = TJ0_init_db425_47 := dr3 DJ0_init_db425_44
theorem DJ0_init_db425_48 : cJ0_init_db425.data.toList.drop 48 = TJ0_init_db425_48 := dr1 DJ0_init_db425_47
theorem DJ0_init_db425_51 : cJ0_init_db425.data.toList.drop 51 = TJ0_init_db425_51 := dr3 DJ0_init_db425_48
theorem DJ0_init_db425_54 : cJ0_init_db425.data.toList.drop 54 = TJ0_init_db425_54 := dr3 DJ0_init_db425_51
theorem DJ0_init_db425_55 : cJ0_init_db425.data.toList.drop 55 = TJ0_init_db425_55 := dr1 DJ0_init_db425_54
theorem DJ0_init_db425_56 : cJ0_init_db425.data.toList.drop 56 = TJ0_init_db425_56 := dr1 DJ0_init_db425_55
theorem DJ0_init_db425_57 : cJ0_init_db425.data.toList.drop 57 = TJ0_init_db425_57 := dr1 DJ0_init_db425_56
theorem DJ0_init_db425_59 : cJ0_init_db425.data.toList.drop 59 = TJ0_init_db425_59 := dr2 DJ0_init_db425_57
theorem DJ0_init_db425_62 : cJ0_init_db425.data.toList.drop 62 = TJ0_init_db425_62 := dr3 DJ0_init_db425_59
theorem DJ0_init_db425_65 : cJ0_init_db425.data.toList.drop 65 = TJ0_init_db425_65 := dr3 DJ0_init_db425_62
theorem DJ0_init_db425_66 : cJ0_init_db425.data.toList.drop 66 = TJ0_init_db425_66 := dr1 DJ0_init_db425_65
theorem DJ0_init_db425_67 : cJ0_init_db425.data.toList.drop 67 = TJ0_init_db425_67 := dr1 DJ0_init_db425_66
theorem DJ0_init_db425_70 : cJ0_init_db425.data.toList.drop 70 = TJ0_init_db425_70 := dr3 DJ0_init_db425_67
theorem DJ0_init_db425_72 : cJ0_init_db425.data.toList.drop 72 = TJ0_init_db425_72 := dr2 DJ0_init_db425_70
theorem DJ0_init_db425_75 : cJ0_init_db425.data.toList.drop 75 = TJ0_init_db425_75 := dr3 DJ0_init_db425_72
theorem DJ0_init_db425_78 : cJ0_init_db425.data.toList.drop 78 = TJ0_init_db425_78 := dr3 DJ0_init_db425_75
theorem DJ0_init_db425_79 : cJ0_init_db425.data.toList.drop 79 = TJ0_init_db425_79 := dr1 DJ0_init_db425_78
theorem DJ0_init_db425_80 : cJ0_init_db425.data.toList.drop 80 = TJ0_init_db425_80 := dr1 DJ0_init_db425_79
theorem DJ0_init_db425_81 : cJ0_init_db425.data.toList.drop 81 = TJ0_init_db425_81 := dr1 DJ0_init_db425_80
theorem DJ0_init_db425_84 : cJ0_init_db425.data.toList.drop 84 = TJ0_init_db425_84 := dr3 DJ0_init_db425_81
theorem DJ0_init_db425_85 : cJ0_init_db425.data.toList.drop 85 = TJ0_init_db425_85 := dr1 DJ0_init_db425_84
theorem DJ0_init_db425_86 : cJ0_init_db425.data.toList.drop 86 = TJ0_init_db425_86 := dr1 DJ0_init_db425_85
theorem DJ0_init_db425_87 : cJ0_init_db425.data.toList.drop 87 = TJ0_init_db425_87 := dr1 DJ0_init_db425_86
theorem DJ0_init_db425_89 : cJ0_init_db425.data.toList.drop 89 = TJ0_init_db425_89 := dr2 DJ0_init_db425_87
theorem DJ0_init_db425_90 : cJ0_init_db425.data.toList.drop 90 = TJ0_init_db425_90 := dr1 DJ0_init_db425_89
theorem DJ0_init_db425_91 : cJ0_init_db425.data.toList.drop 91 = TJ0_init_db425_91 := dr1 DJ0_init_db425_90
theorem DJ0_init_db425_94 : cJ0_init_db425.data.toList.drop 94 = TJ0_init_db425_94 := dr3 DJ0_init_db425_91
theorem DJ0_init_db425_97 : cJ0_init_db425.data.toList.drop 97 = TJ0_init_db425_97 := dr3 DJ0_init_db425_94
theorem dJ0_init_db425_0 : decode cJ0_init_db425 0 = .ok (.aload_n 0, 1) := do_2a DJ0_init_db425_0
theorem dJ0_init_db425_1 : decode cJ0_init_db425 1 = .ok (.invokespecial 1, 3) := do_b7 DJ0_init_db425_1
theorem dJ0_init_db425_4 : decode cJ0_init_db425 4 = .ok (.aload_n 1, 1) := do_2b DJ0_init_db425_4
theorem dJ0_init_db425_5 : decode cJ0_init_db425 5 = .ok (.invokevirtual 552, 3) := do_b6 DJ0_init_db425_5
theorem dJ0_init_db425_8 : decode cJ0_init_db425 8 = .ok (.astore_n 3, 1) := do_4e DJ0_init_db425_8
theorem dJ0_init_db425_9 : decode cJ0_init_db425 9 = .ok (.aload_n 1, 1) := do_2b DJ0_init_db425_9
theorem dJ0_init_db425_10 : decode cJ0_init_db425 10 = .ok (.invokevirtual 549, 3) := do_b6 DJ0_init_db425_10
theorem dJ0_init_db425_13 : decode cJ0_init_db425 13 = .ok (.istore 4, 2) := do_36 DJ0_init_db425_13
theorem dJ0_init_db425_15 : decode cJ0_init_db425 15 = .ok (.aload_n 1, 1) := do_2b DJ0_init_db425_15
theorem dJ0_init_db425_16 : decode cJ0_init_db425 16 = .ok (.invokevirtual 1047, 3) := do_b6 DJ0_init_db425_16
theorem dJ0_init_db425_19 : decode cJ0_init_db425 19 = .ok (.ifCond .eq 22, 3) := do_99 DJ0_init_db425_19 (by decide +kernel)
theorem dJ0_init_db425_22 : decode cJ0_init_db425 22 = .ok (.aload_n 0, 1) := do_2a DJ0_init_db425_22
theorem dJ0_init_db425_23 : decode cJ0_init_db425 23 = .ok (.iconst 0, 1) := do_03 DJ0_init_db425_23
theorem dJ0_init_db425_24 : decode cJ0_init_db425 24 = .ok (.putfield 15, 3) := do_b5 DJ0_init_db425_24
theorem dJ0_init_db425_27 : decode cJ0_init_db425 27 = .ok (.aload_n 0, 1) := do_2a DJ0_init_db425_27
theorem dJ0_init_db425_28 : decode cJ0_init_db425 28 = .ok (.aload_n 3, 1) := do_2d DJ0_init_db425_28
theorem dJ0_init_db425_29 : decode cJ0_init_db425 29 = .ok (.iconst 0, 1) := do_03 DJ0_init_db425_29
theorem dJ0_init_db425_30 : decode cJ0_init_db425 30 = .ok (.iload 4, 2) := do_15 DJ0_init_db425_30
theorem dJ0_init_db425_32 : decode cJ0_init_db425 32 = .ok (.invokestatic 54, 3) := do_b8 DJ0_init_db425_32
theorem dJ0_init_db425_35 : decode cJ0_init_db425 35 = .ok (.putfield 9, 3) := do_b5 DJ0_init_db425_35
theorem dJ0_init_db425_38 : decode cJ0_init_db425 38 = .ok (.goto 59, 3) := do_a7 DJ0_init_db425_38 (by decide +kernel)
theorem dJ0_init_db425_41 : decode cJ0_init_db425 41 = .ok (.getstatic 38, 3) := do_b2 DJ0_init_db425_41
theorem dJ0_init_db425_44 : decode cJ0_init_db425 44 = .ok (.ifCond .eq 35, 3) := do_99 DJ0_init_db425_44 (by decide +kernel)
theorem dJ0_init_db425_47 : decode cJ0_init_db425 47 = .ok (.aload_n 1, 1) := do_2b DJ0_init_db425_47
theorem dJ0_init_db425_48 : decode cJ0_init_db425 48 = .ok (.getfield 1048, 3) := do_b4 DJ0_init_db425_48
theorem dJ0_init_db425_51 : decode cJ0_init_db425 51 = .ok (.ifCond .eq 28, 3) := do_99 DJ0_init_db425_51 (by decide +kernel)
theorem dJ0_init_db425_54 : decode cJ0_init_db425 54 = .ok (.aload_n 0, 1) := do_2a DJ0_init_db425_54
theorem dJ0_init_db425_55 : decode cJ0_init_db425 55 = .ok (.aload_n 3, 1) := do_2d DJ0_init_db425_55
theorem dJ0_init_db425_56 : decode cJ0_init_db425 56 = .ok (.iconst 0, 1) := do_03 DJ0_init_db425_56
theorem dJ0_init_db425_57 : decode cJ0_init_db425 57 = .ok (.iload 4, 2) := do_15 DJ0_init_db425_57
theorem dJ0_init_db425_59 : decode cJ0_init_db425 59 = .ok (.invokestatic 1051, 3) := do_b8 DJ0_init_db425_59
theorem dJ0_init_db425_62 : decode cJ0_init_db425 62 = .ok (.putfield 9, 3) := do_b5 DJ0_init_db425_62
theorem dJ0_init_db425_65 : decode cJ0_init_db425 65 = .ok (.aload_n 0, 1) := do_2a DJ0_init_db425_65
theorem dJ0_init_db425_66 : decode cJ0_init_db425 66 = .ok (.aload_n 0, 1) := do_2a DJ0_init_db425_66
theorem dJ0_init_db425_67 : decode cJ0_init_db425 67 = .ok (.getfield 9, 3) := do_b4 DJ0_init_db425_67
theorem dJ0_init_db425_70 : decode cJ0_init_db425 70 = .ok (.iload 4, 2) := do_15 DJ0_init_db425_70
theorem dJ0_init_db425_72 : decode cJ0_init_db425 72 = .ok (.invokestatic 47, 3) := do_b8 DJ0_init_db425_72
theorem dJ0_init_db425_75 : decode cJ0_init_db425 75 = .ok (.putfield 15, 3) := do_b5 DJ0_init_db425_75
theorem dJ0_init_db425_78 : decode cJ0_init_db425 78 = .ok (.return_, 1) := do_b1 DJ0_init_db425_78
theorem dJ0_init_db425_79 : decode cJ0_init_db425 79 = .ok (.aload_n 0, 1) := do_2a DJ0_init_db425_79
theorem dJ0_init_db425_80 : decode cJ0_init_db425 80 = .ok (.iconst 1, 1) := do_04 DJ0_init_db425_80
theorem dJ0_init_db425_81 : decode cJ0_init_db425 81 = .ok (.putfield 15, 3) := do_b5 DJ0_init_db425_81
theorem dJ0_init_db425_84 : decode cJ0_init_db425 84 = .ok (.aload_n 0, 1) := do_2a DJ0_init_db425_84
theorem dJ0_init_db425_85 : decode cJ0_init_db425 85 = .ok (.aload_n 3, 1) := do_2d DJ0_init_db425_85
theorem dJ0_init_db425_86 : decode cJ0_init_db425 86 = .ok (.iconst 0, 1) := do_03 DJ0_init_db425_86
theorem dJ0_init_db425_87 : decode cJ0_init_db425 87 = .ok (.iload 4, 2) := do_15 DJ0_init_db425_87
theorem dJ0_init_db425_89 : decode cJ0_init_db425 89 = .ok (.iconst 1, 1) := do_04 DJ0_init_db425_89
theorem dJ0_init_db425_90 : decode cJ0_init_db425 90 = .ok (.ishl, 1) := do_78 DJ0_init_db425_90
theorem dJ0_init_db425_91 : decode cJ0_init_db425 91 = .ok (.invokestatic 54, 3) := do_b8 DJ0_init_db425_91
theorem dJ0_init_db425_94 : decode cJ0_init_db425 94 = .ok (.putfield 9, 3) := do_b5 DJ0_init_db425_94
theorem dJ0_init_db425_97 : decode cJ0_init_db425 97 = .ok (.return_, 1) := do_b1 DJ0_init_db425_97
def TJ0_coder_7d493_15 : List UInt8 := []
def TJ0_coder_7d493_14 : List UInt8 := 172 :: TJ0_coder_7d493_15
def TJ0_coder_7d493_13 : List UInt8 := 4 :: TJ0_coder_7d493_14
def TJ0_coder_7d493_10 : List UInt8 := 167 :: 0 :: 4 :: TJ0_coder_7d493_13
def TJ0_coder_7d493_7 : List UInt8 := 180 :: 0 :: 15 :: TJ0_coder_7d493_10
def TJ0_coder_7d493_6 : List UInt8 := 42 :: TJ0_coder_7d493_7
def TJ0_coder_7d493_3 : List UInt8 := 153 :: 0 :: 10 :: TJ0_coder_7d493_6
def TJ0_coder_7d493_0 : List UInt8 := 178 :: 0 :: 38 :: TJ0_coder_7d493_3
theorem DJ0_coder_7d493_0 : cJ0_coder_7d493.data.toList.drop 0 = TJ0_coder_7d493_0 := by decide +kernel
theorem DJ0_coder_7d493_3 : cJ0_coder_7d493.data.toList.drop 3 = TJ0_coder_7d493_3 := dr3 DJ0_coder_7d493_0
theorem DJ0_coder_7d493_6 : cJ0_coder_7d493.data.toList.drop 6 = TJ0_coder_7d493_6 := dr3 DJ0_coder_7d493_3
theorem DJ0_coder_7d493_7 : cJ0_coder_7d493.data.toList.drop 7 = TJ0_coder_7d493_7 := dr1 DJ0_coder_7d493_6
theorem DJ0_coder_7d493_10 : cJ0_coder_7d493.data.toList.drop 10 = TJ0_coder_7d493_10 := dr3 DJ0_coder_7d493_7
theorem DJ0_coder_7d493_13 : cJ0_coder_7d493.data.toList.drop 13 = TJ0_coder_7d493_13 := dr3 DJ0_coder_7d493_10
theorem DJ0_coder_7d493_14 : cJ0_coder_7d493.data.toList.drop 14 = TJ0_coder_7d493_14 := dr1 DJ0_coder_7d493_13
theorem dJ0_coder_7d493_0 : decode cJ0_coder_7d493 0 = .ok (.getstatic 38, 3) := do_b2 DJ0_coder_7d493_0
theorem dJ0_coder_7d493_3 : decode cJ0_coder_7d493 3 = .ok (.ifCond .eq 10, 3) := do_99 DJ0_coder_7d493_3 (by decide +kernel)
theorem dJ0_coder_7d493_6 : decode cJ0_coder_7d493 6 = .ok (.aload_n 0, 1) := do_2a DJ0_coder_7d493_6
theorem dJ0_coder_7d493_7 : decode cJ0_coder_7d493 7 = .ok (.getfield 15, 3) := do_b4 DJ0_coder_7d493_7
theorem dJ0_coder_7d493_10 : decode cJ0_coder_7d493 10 = .ok (.goto 4, 3) := do_a7 DJ0_coder_7d493_10 (by decide +kernel)
theorem dJ0_coder_7d493_13 : decode cJ0_coder_7d493 13 = .ok (.iconst 1, 1) := do_04 DJ0_coder_7d493_13
theorem dJ0_coder_7d493_14 : decode cJ0_coder_7d493 14 = .ok (.ireturn, 1) := do_ac DJ0_coder_7d493_14
def TJ0_isLatin1_aae02_19 : List UInt8 := []
def TJ0_isLatin1_aae02_18 : List UInt8 := 172 :: TJ0_isLatin1_aae02_19
def TJ0_isLatin1_aae02_17 : List UInt8 := 3 :: TJ0_isLatin1_aae02_18
def TJ0_isLatin1_aae02_14 : List UInt8 := 167 :: 0 :: 4 :: TJ0_isLatin1_aae02_17
def TJ0_isLatin1_aae02_13 : List UInt8 := 4 :: TJ0_isLatin1_aae02_14
def TJ0_isLatin1_aae02_10 : List UInt8 := 154 :: 0 :: 7 :: TJ0_isLatin1_aae02_13
def TJ0_isLatin1_aae02_7 : List UInt8 := 180 :: 0 :: 15 :: TJ0_isLatin1_aae02_10
def TJ0_isLatin1_aae02_6 : List UInt8 := 42 :: TJ0_isLatin1_aae02_7
def TJ0_isLatin1_aae02_3 : List UInt8 := 153 :: 0 :: 14 :: TJ0_isLatin1_aae02_6
def TJ0_isLatin1_aae02_0 : List UInt8 := 178 :: 0 :: 38 :: TJ0_isLatin1_aae02_3
theorem DJ0_isLatin1_aae02_0 : cJ0_isLatin1_aae02.data.toList.drop 0 = TJ0_isLatin1_aae02_0 := by decide +kernel
theorem DJ0_isLatin1_aae02_3 : cJ0_isLatin1_aae02.data.toList.drop 3 = TJ0_isLatin1_aae02_3 := dr3 DJ0_isLatin1_aae02_0
theorem DJ0_isLatin1_aae02_6 : cJ0_isLatin1_aae02.data.toList.drop 6 = TJ0_isLatin1_aae02_6 := dr3 DJ0_isLatin1_aae02_3
theorem DJ0_isLatin1_aae02_7 : cJ0_isLatin1_aae02.data.toList.drop 7 = TJ0_isLatin1_aae02_7 := dr1 DJ0_isLatin1_aae02_6
theorem DJ0_isLatin1_aae02_10 : cJ0_isLatin1_aae02.data.toList.drop 10 = TJ0_isLatin1_aae02_10 := dr3 DJ0_isLatin1_aae02_7
theorem DJ0_isLatin1_aae02_13 : cJ0_isLatin1_aae02.data.toList.drop 13 = TJ0_isLatin1_aae02_13 := dr3 DJ0_isLatin1_aae02_10
theorem DJ0_isLatin1_aae02_14 : cJ0_isLatin1_aae02.data.toList.drop 14 = TJ0_isLatin1_aae02_14 := dr1 DJ0_isLatin1_aae02_13
theorem DJ0_isLatin1_aae02_17 : cJ0_isLatin1_aae02.data.toList.drop 17 = TJ0_isLatin1_aae02_17 := dr3 DJ0_isLatin1_aae02_14
theorem DJ0_isLatin1_aae02_18 : cJ0_isLatin1_aae02.data.toList.drop 18 = TJ0_isLatin1_aae02_18 := dr1 DJ0_isLatin1_aae02_17
theorem dJ0_isLatin1_aae02_0 : decode cJ0_isLatin1_aae02 0 = .ok (.getstatic 38, 3) := do_b2 DJ0_isLatin1_aae02_0
theorem dJ0_isLatin1_aae02_3 : decode cJ0_isLatin1_aae02 3 = .ok (.ifCond .eq 14, 3) := do_99 DJ0_isLatin1_aae02_3 (by decide +kernel)
theorem dJ0_isLatin1_aae02_6 : decode cJ0_isLatin1_aae02 6 = .ok (.aload_n 0, 1) := do_2a DJ0_isLatin1_aae02_6
theorem dJ0_isLatin1_aae02_7 : decode cJ0_isLatin1_aae02 7 = .ok (.getfield 15, 3) := do_b4 DJ0_isLatin1_aae02_7
theorem dJ0_isLatin1_aae02_10 : decode cJ0_isLatin1_aae02 10 = .ok (.ifCond .ne 7, 3) := do_9a DJ0_isLatin1_aae02_10 (by decide +kernel)
theorem dJ0_isLatin1_aae02_13 : decode cJ0_isLatin1_aae02 13 = .ok (.iconst 1, 1) := do_04 DJ0_isLatin1_aae02_13
theorem dJ0_isLatin1_aae02_14 : decode cJ0_isLatin1_aae02 14 = .ok (.goto 4, 3) := do_a7 DJ0_isLatin1_aae02_14 (by decide +kernel)
theorem dJ0_isLatin1_aae02_17 : decode cJ0_isLatin1_aae02 17 = .ok (.iconst 0, 1) := do_03 DJ0_isLatin1_aae02_17
theorem dJ0_isLatin1_aae02_18 : decode cJ0_isLatin1_aae02 18 = .ok (.ireturn, 1) := do_ac DJ0_isLatin1_aae02_18
def TJ0_checkIndex_df160_10 : List UInt8 := []
def TJ0_checkIndex_df160_9 : List UInt8 := 177 :: TJ0_checkIndex_df160_10
def TJ0_checkIndex_df160_8 : List UInt8 := 87 :: TJ0_checkIndex_df160_9
def TJ0_checkIndex_df160_5 : List UInt8 := 184 :: 4 :: 35 :: TJ0_checkIndex_df160_8
def TJ0_checkIndex_df160_2 : List UInt8 := 178 :: 4 :: 29 :: TJ0_checkIndex_df160_5
def TJ0_checkIndex_df160_1 : List UInt8 := 27 :: TJ0_checkIndex_df160_2
def TJ0_checkIndex_df160_0 : List UInt8 := 26 :: TJ0_checkIndex_df160_1
theorem DJ0_checkIndex_df160_0 : cJ0_checkIndex_df160.data.toList.drop 0 = TJ0_checkIndex_df160_0 := by decide +kernel
theorem DJ0_checkIndex_df160_1 : cJ0_checkIndex_df160.data.toList.drop 1 = TJ0_checkIndex_df160_1 := dr1 DJ0_checkIndex_df160_0
theorem DJ0_checkIndex_df160_2 : cJ0_checkIndex_df160.data.toList.drop 2 = TJ0_checkIndex_df160_2 := dr1 DJ0_checkIndex_df160_1
theorem DJ0_checkIndex_df160_5 : cJ0_checkIndex_df160.data.toList.drop 5 = TJ0_checkIndex_df160_5 := dr3 DJ0_checkIndex_df160_2
theorem DJ0_checkIndex_df160_8 : cJ0_checkIndex_df160.data.toList.drop 8 = TJ0_checkIndex_df160_8 := dr3 DJ0_checkIndex_df160_5
theorem DJ0_checkIndex_df160_9 : cJ0_checkIndex_df160.data.toList.drop 9 = TJ0_checkIndex_df160_9 := dr1 DJ0_checkIndex_df160_8
theorem dJ0_checkIndex_df160_0 : decode cJ0_checkIndex_df160 0 = .ok (.iload_n 0, 1) := do_1a DJ0_checkIndex_df160_0
theorem dJ0_checkIndex_df160_1 : decode cJ0_checkIndex_df160 1 = .ok (.iload_n 1, 1) := do_1b DJ0_checkIndex_df160_1
theorem dJ0_checkIndex_df160_2 : decode cJ0_checkIndex_df160 2 = .ok (.getstatic 1053, 3) := do_b2 DJ0_checkIndex_df160_2
theorem dJ0_checkIndex_df160_5 : decode cJ0_checkIndex_df160 5 = .ok (.invokestatic 1059, 3) := do_b8 DJ0_checkIndex_df160_5
theorem dJ0_checkIndex_df160_8 : decode cJ0_checkIndex_df160 8 = .ok (.pop, 1) := do_57 DJ0_checkIndex_df160_8
theorem dJ0_checkIndex_df160_9 : decode cJ0_checkIndex_df160 9 = .ok (.return_, 1) := do_b1 DJ0_checkIndex_df160_9
def TJ0_checkOffset_df160_11 : List UInt8 := []
def TJ0_checkOffset_df160_10 : List UInt8 := 177 :: TJ0_checkOffset_df160_11
def TJ0_checkOffset_df160_9 : List UInt8 := 87 :: TJ0_checkOffset_df160_10
def TJ0_checkOffset_df160_6 : List UInt8 := 184 :: 4 :: 38 :: TJ0_checkOffset_df160_9
def TJ0_checkOffset_df160_3 : List UInt8 := 178 :: 4 :: 29 :: TJ0_checkOffset_df160_6
def TJ0_checkOffset_df160_2 : List UInt8 := 27 :: TJ0_checkOffset_df160_3
def TJ0_checkOffset_df160_1 : List UInt8 := 27 :: TJ0_checkOffset_df160_2
def TJ0_checkOffset_df160_0 : List UInt8 := 26 :: TJ0_checkOffset_df160_1
theorem DJ0_checkOffset_df160_0 : cJ0_checkOffset_df160.data.toList.drop 0 = TJ0_checkOffset_df160_0 := by decide +kernel
theorem DJ0_checkOffset_df160_1 : cJ0_checkOffset_df160.data.toList.drop 1 = TJ0_checkOffset_df160_1 := dr1 DJ0_checkOffset_df160_0
theorem DJ0_checkOffset_df160_2 : cJ0_checkOffset_df160.data.toList.drop 2 = TJ0_checkOffset_df160_2 := dr1 DJ0_checkOffset_df160_1
theorem DJ0_checkOffset_df160_3 : cJ0_checkOffset_df160.data.toList.drop 3 = TJ0_checkOffset_df160_3 := dr1 DJ0_checkOffset_df160_2
theorem DJ0_checkOffset_df160_6 : cJ0_checkOffset_df160.data.toList.drop 6 = TJ0_checkOffset_df160_6 := dr3 DJ0_checkOffset_df160_3
theorem DJ0_checkOffset_df160_9 : cJ0_checkOffset_df160.data.toList.drop 9 = TJ0_checkOffset_df160_9 := dr3 DJ0_checkOffset_df160_6
theorem DJ0_checkOffset_df160_10 : cJ0_checkOffset_df160.data.toList.drop 10 = TJ0_checkOffset_df160_10 := dr1 DJ0_checkOffset_df160_9
theorem dJ0_checkOffset_df160_0 : decode cJ0_checkOffset_df160 0 = .ok (.iload_n 0, 1) := do_1a DJ0_checkOffset_df160_0
theorem dJ0_checkOffset_df160_1 : decode cJ0_checkOffset_df160 1 = .ok (.iload_n 1, 1) := do_1b DJ0_checkOffset_df160_1
theorem dJ0_checkOffset_df160_2 : decode cJ0_checkOffset_df160 2 = .ok (.iload_n 1, 1) := do_1b DJ0_checkOffset_df160_2
theorem dJ0_checkOffset_df160_3 : decode cJ0_checkOffset_df160 3 = .ok (.getstatic 1053, 3) := do_b2 DJ0_checkOffset_df160_3
theorem dJ0_checkOffset_df160_6 : decode cJ0_checkOffset_df160 6 = .ok (.invokestatic 1062, 3) := do_b8 DJ0_checkOffset_df160_6
theorem dJ0_checkOffset_df160_9 : decode cJ0_checkOffset_df160 9 = .ok (.pop, 1) := do_57 DJ0_checkOffset_df160_9
theorem dJ0_checkOffset_df160_10 : decode cJ0_checkOffset_df160 10 = .ok (.return_, 1) := do_b1 DJ0_checkOffset_df160_10
def TJ0_checkBoundsOffCount_cabcc_10 : List UInt8 := []
def TJ0_checkBoundsOffCount_cabcc_9 : List UInt8 := 172 :: TJ0_checkBoundsOffCount_cabcc_10
def TJ0_checkBoundsOffCount_cabcc_6 : List UInt8 := 184 :: 4 :: 41 :: TJ0_checkBoundsOffCount_cabcc_9
def TJ0_checkBoundsOffCount_cabcc_3 : List UInt8 := 178 :: 4 :: 29 :: TJ0_checkBoundsOffCount_cabcc_6
def TJ0_checkBoundsOffCount_cabcc_2 : List UInt8 := 28 :: TJ0_checkBoundsOffCount_cabcc_3
def TJ0_checkBoundsOffCount_cabcc_1 : List UInt8 := 27 :: TJ0_checkBoundsOffCount_cabcc_2
def TJ0_checkBoundsOffCount_cabcc_0 : List UInt8 := 26 :: TJ0_checkBoundsOffCount_cabcc_1
theorem DJ0_checkBoundsOffCount_cabcc_0 : cJ0_checkBoundsOffCount_cabcc.data.toList.drop 0 = TJ0_checkBoundsOffCount_cabcc_0 := by decide +kernel
theorem DJ0_checkBoundsOffCount_cabcc_1 : cJ0_checkBoundsOffCount_cabcc.data.toList.drop 1 = TJ0_checkBoundsOffCount_cabcc_1 := dr1 DJ0_checkBoundsOffCount_cabcc_0
theorem DJ0_checkBoundsOffCount_cabcc_2 : cJ0_checkBoundsOffCount_cabcc.data.toList.drop 2 = TJ0_checkBoundsOffCount_cabcc_2 := dr1 DJ0_checkBoundsOffCount_cabcc_1
theorem DJ0_checkBoundsOffCount_cabcc_3 : cJ0_checkBoundsOffCount_cabcc.data.toList.drop 3 = TJ0_checkBoundsOffCount_cabcc_3 := dr1 DJ0_checkBoundsOffCount_cabcc_2
theorem DJ0_checkBoundsOffCount_cabcc_6 : cJ0_checkBoundsOffCount_cabcc.data.toList.drop 6 = TJ0_checkBoundsOffCount_cabcc_6 := dr3 DJ0_checkBoundsOffCount_cabcc_3
theorem DJ0_checkBoundsOffCount_cabcc_9 : cJ0_checkBoundsOffCount_cabcc.data.toList.drop 9 = TJ0_checkBoundsOffCount_cabcc_9 := dr3 DJ0_checkBoundsOffCount_cabcc_6
theorem dJ0_checkBoundsOffCount_cabcc_0 : decode cJ0_checkBoundsOffCount_cabcc 0 = .ok (.iload_n 0, 1) := do_1a DJ0_checkBoundsOffCount_cabcc_0
theorem dJ0_checkBoundsOffCount_cabcc_1 : decode cJ0_checkBoundsOffCount_cabcc 1 = .ok (.iload_n 1, 1) := do_1b DJ0_checkBoundsOffCount_cabcc_1
theorem dJ0_checkBoundsOffCount_cabcc_2 : decode cJ0_checkBoundsOffCount_cabcc 2 = .ok (.iload_n 2, 1) := do_1c DJ0_checkBoundsOffCount_cabcc_2
theorem dJ0_checkBoundsOffCount_cabcc_3 : decode cJ0_checkBoundsOffCount_cabcc 3 = .ok (.getstatic 1053, 3) := do_b2 DJ0_checkBoundsOffCount_cabcc_3
theorem dJ0_checkBoundsOffCount_cabcc_6 : decode cJ0_checkBoundsOffCount_cabcc 6 = .ok (.invokestatic 1065, 3) := do_b8 DJ0_checkBoundsOffCount_cabcc_6
theorem dJ0_checkBoundsOffCount_cabcc_9 : decode cJ0_checkBoundsOffCount_cabcc 9 = .ok (.ireturn, 1) := do_ac DJ0_checkBoundsOffCount_cabcc_9
def TJ0_checkBoundsBeginEnd_23922_11 : List UInt8 := []
def TJ0_checkBoundsBeginEnd_23922_10 : List UInt8 := 177 :: TJ0_checkBoundsBeginEnd_23922_11
def TJ0_checkBoundsBeginEnd_23922_9 : List UInt8 := 87 :: TJ0_checkBoundsBeginEnd_23922_10
def TJ0_checkBoundsBeginEnd_23922_6 : List UInt8 := 184 :: 4 :: 38 :: TJ0_checkBoundsBeginEnd_23922_9
def TJ0_checkBoundsBeginEnd_23922_3 : List UInt8 := 178 :: 4 :: 29 :: TJ0_checkBoundsBeginEnd_23922_6
def TJ0_checkBoundsBeginEnd_23922_2 : List UInt8 := 28 :: TJ0_checkBoundsBeginEnd_23922_3
def TJ0_checkBoundsBeginEnd_23922_1 : List UInt8 := 27 :: TJ0_checkBoundsBeginEnd_23922_2
def TJ0_checkBoundsBeginEnd_23922_0 : List UInt8 := 26 :: TJ0_checkBoundsBeginEnd_23922_1
theorem DJ0_checkBoundsBeginEnd_23922_0 : cJ0_checkBoundsBeginEnd_23922.data.toList.drop 0 = TJ0_checkBoundsBeginEnd_23922_0 := by decide +kernel
theorem DJ0_checkBoundsBeginEnd_23922_1 : cJ0_checkBoundsBeginEnd_23922.data.toList.drop 1 = TJ0_checkBoundsBeginEnd_23922_1 := dr1 DJ0_checkBoundsBeginEnd_23922_0
theorem DJ0_checkBoundsBeginEnd_23922_2 : cJ0_checkBoundsBeginEnd_23922.data.toList.drop 2 = TJ0_checkBoundsBeginEnd_23922_2 := dr1 DJ0_checkBoundsBeginEnd_23922_1
theorem DJ0_checkBoundsBeginEnd_23922_3 : cJ0_checkBoundsBeginEnd_23922.data.toList.drop 3 = TJ0_checkBoundsBeginEnd_23922_3 := dr1 DJ0_checkBoundsBeginEnd_23922_2
theorem DJ0_checkBoundsBeginEnd_23922_6 : cJ0_checkBoundsBeginEnd_23922.data.toList.drop 6 = TJ0_checkBoundsBeginEnd_23922_6 := dr3 DJ0_checkBoundsBeginEnd_23922_3
theorem DJ0_checkBoundsBeginEnd_23922_9 : cJ0_checkBoundsBeginEnd_23922.data.toList.drop 9 = TJ0_checkBoundsBeginEnd_23922_9 := dr3 DJ0_checkBoundsBeginEnd_23922_6
theorem DJ0_checkBoundsBeginEnd_23922_10 : cJ0_checkBoundsBeginEnd_23922.data.toList.drop 10 = TJ0_checkBoundsBeginEnd_23922_10 := dr1 DJ0_checkBoundsBeginEnd_23922_9
theorem dJ0_checkBoundsBeginEnd_23922_0 : decode cJ0_checkBoundsBeginEnd_23922 0 = .ok (.iload_n 0, 1) := do_1a DJ0_checkBoundsBeginEnd_23922_0
theorem dJ0_checkBoundsBeginEnd_23922_1 : decode cJ0_checkBoundsBeginEnd_23922 1 = .ok (.iload_n 1, 1) := do_1b DJ0_checkBoundsBeginEnd_23922_1
theorem dJ0_checkBoundsBeginEnd_23922_2 : decode cJ0_checkBoundsBeginEnd_23922 2 = .ok (.iload_n 2, 1) := do_1c DJ0_checkBoundsBeginEnd_23922_2
theorem dJ0_checkBoundsBeginEnd_23922_3 : decode cJ0_checkBoundsBeginEnd_23922 3 = .ok (.getstatic 1053, 3) := do_b2 DJ0_checkBoundsBeginEnd_23922_3
theorem dJ0_checkBoundsBeginEnd_23922_6 : decode cJ0_checkBoundsBeginEnd_23922 6 = .ok (.invokestatic 1062, 3) := do_b8 DJ0_checkBoundsBeginEnd_23922_6
theorem dJ0_checkBoundsBeginEnd_23922_9 : decode cJ0_checkBoundsBeginEnd_23922 9 = .ok (.pop, 1) := do_57 DJ0_checkBoundsBeginEnd_23922_9
theorem dJ0_checkBoundsBeginEnd_23922_10 : decode cJ0_checkBoundsBeginEnd_23922 10 = .ok (.return_, 1) := do_b1 DJ0_checkBoundsBeginEnd_23922_10
def TJ4_init_da8c8_7 : List UInt8 := []
def TJ4_init_da8c8_6 : List UInt8 := 177 :: TJ4_init_da8c8_7
def TJ4_init_da8c8_3 : List UInt8 := 183 :: 0 :: 1 :: TJ4_init_da8c8_6
def TJ4_init_da8c8_1 : List UInt8 := 16 :: 16 :: TJ4_init_da8c8_3
def TJ4_init_da8c8_0 : List UInt8 := 42 :: TJ4_init_da8c8_1
theorem DJ4_init_da8c8_0 : cJ4_init_da8c8.data.toList.drop 0 = TJ4_init_da8c8_0 := by decide +kernel
theorem DJ4_init_da8c8_1 : cJ4_init_da8c8.data.toList.drop 1 = TJ4_init_da8c8_1 := dr1 DJ4_init_da8c8_0
theorem DJ4_init_da8c8_3 : cJ4_init_da8c8.data.toList.drop 3 = TJ4_init_da8c8_3 := dr2 DJ4_init_da8c8_1
theorem DJ4_init_da8c8_6 : cJ4_init_da8c8.data.toList.drop 6 = TJ4_init_da8c8_6 := dr3 DJ4_init_da8c8_3
theorem dJ4_init_da8c8_0 : decode cJ4_init_da8c8 0 = .ok (.aload_n 0, 1) := do_2a DJ4_init_da8c8_0
theorem dJ4_init_da8c8_1 : decode cJ4_init_da8c8 1 = .ok (.bipush 16, 2) := do_10 DJ4_init_da8c8_1 (by decide +kernel)
theorem dJ4_init_da8c8_3 : decode cJ4_init_da8c8 3 = .ok (.invokespecial 1, 3) := do_b7 DJ4_init_da8c8_3
theorem dJ4_init_da8c8_6 : decode cJ4_init_da8c8 6 = .ok (.return_, 1) := do_b1 DJ4_init_da8c8_6
def TJ4_append_15ec4_8 : List UInt8 := []
def TJ4_append_15ec4_7 : List UInt8 := 176 :: TJ4_append_15ec4_8
def TJ4_append_15ec4_6 : List UInt8 := 42 :: TJ4_append_15ec4_7
def TJ4_append_15ec4_5 : List UInt8 := 87 :: TJ4_append_15ec4_6
def TJ4_append_15ec4_2 : List UInt8 := 183 :: 0 :: 29 :: TJ4_append_15ec4_5
def TJ4_append_15ec4_1 : List UInt8 := 43 :: TJ4_append_15ec4_2
def TJ4_append_15ec4_0 : List UInt8 := 42 :: TJ4_append_15ec4_1
theorem DJ4_append_15ec4_0 : cJ4_append_15ec4.data.toList.drop 0 = TJ4_append_15ec4_0 := by decide +kernel
theorem DJ4_append_15ec4_1 : cJ4_append_15ec4.data.toList.drop 1 = TJ4_append_15ec4_1 := dr1 DJ4_append_15ec4_0
theorem DJ4_append_15ec4_2 : cJ4_append_15ec4.data.toList.drop 2 = TJ4_append_15ec4_2 := dr1 DJ4_append_15ec4_1
theorem DJ4_append_15ec4_5 : cJ4_append_15ec4.data.toList.drop 5 = TJ4_append_15ec4_5 := dr3 DJ4_append_15ec4_2
theorem DJ4_append_15ec4_6 : cJ4_append_15ec4.data.toList.drop 6 = TJ4_append_15ec4_6 := dr1 DJ4_append_15ec4_5
theorem DJ4_append_15ec4_7 : cJ4_append_15ec4.data.toList.drop 7 = TJ4_append_15ec4_7 := dr1 DJ4_append_15ec4_6
theorem dJ4_append_15ec4_0 : decode cJ4_append_15ec4 0 = .ok (.aload_n 0, 1) := do_2a DJ4_append_15ec4_0
theorem dJ4_append_15ec4_1 : decode cJ4_append_15ec4 1 = .ok (.aload_n 1, 1) := do_2b DJ4_append_15ec4_1
theorem dJ4_append_15ec4_2 : decode cJ4_append_15ec4 2 = .ok (.invokespecial 29, 3) := do_b7 DJ4_append_15ec4_2
theorem dJ4_append_15ec4_5 : decode cJ4_append_15ec4 5 = .ok (.pop, 1) := do_57 DJ4_append_15ec4_5
theorem dJ4_append_15ec4_6 : decode cJ4_append_15ec4 6 = .ok (.aload_n 0, 1) := do_2a DJ4_append_15ec4_6
theorem dJ4_append_15ec4_7 : decode cJ4_append_15ec4 7 = .ok (.areturn, 1) := do_b0 DJ4_append_15ec4_7
def TJ4_append_cf468_8 : List UInt8 := []
def TJ4_append_cf468_7 : List UInt8 := 176 :: TJ4_append_cf468_8
def TJ4_append_cf468_6 : List UInt8 := 42 :: TJ4_append_cf468_7
def TJ4_append_cf468_5 : List UInt8 := 87 :: TJ4_append_cf468_6
def TJ4_append_cf468_2 : List UInt8 := 183 :: 0 :: 50 :: TJ4_append_cf468_5
def TJ4_append_cf468_1 : List UInt8 := 27 :: TJ4_append_cf468_2
def TJ4_append_cf468_0 : List UInt8 := 42 :: TJ4_append_cf468_1
theorem DJ4_append_cf468_0 : cJ4_append_cf468.data.toList.drop 0 = TJ4_append_cf468_0 := by decide +kernel
theorem DJ4_append_cf468_1 : cJ4_append_cf468.data.toList.drop 1 = TJ4_append_cf468_1 := dr1 DJ4_append_cf468_0
theorem DJ4_append_cf468_2 : cJ4_append_cf468.data.toList.drop 2 = TJ4_append_cf468_2 := dr1 DJ4_append_cf468_1
theorem DJ4_append_cf468_5 : cJ4_append_cf468.data.toList.drop 5 = TJ4_append_cf468_5 := dr3 DJ4_append_cf468_2
theorem DJ4_append_cf468_6 : cJ4_append_cf468.data.toList.drop 6 = TJ4_append_cf468_6 := dr1 DJ4_append_cf468_5
theorem DJ4_append_cf468_7 : cJ4_append_cf468.data.toList.drop 7 = TJ4_append_cf468_7 := dr1 DJ4_append_cf468_6
theorem dJ4_append_cf468_0 : decode cJ4_append_cf468 0 = .ok (.aload_n 0, 1) := do_2a DJ4_append_cf468_0
theorem dJ4_append_cf468_1 : decode cJ4_append_cf468 1 = .ok (.iload_n 1, 1) := do_1b DJ4_append_cf468_1
theorem dJ4_append_cf468_2 : decode cJ4_append_cf468 2 = .ok (.invokespecial 50, 3) := do_b7 DJ4_append_cf468_2
theorem dJ4_append_cf468_5 : decode cJ4_append_cf468 5 = .ok (.pop, 1) := do_57 DJ4_append_cf468_5
theorem dJ4_append_cf468_6 : decode cJ4_append_cf468 6 = .ok (.aload_n 0, 1) := do_2a DJ4_append_cf468_6
theorem dJ4_append_cf468_7 : decode cJ4_append_cf468 7 = .ok (.areturn, 1) := do_b0 DJ4_append_cf468_7
def TJ4_append_bf812_8 : List UInt8 := []
def TJ4_append_bf812_7 : List UInt8 := 176 :: TJ4_append_bf812_8
def TJ4_append_bf812_6 : List UInt8 := 42 :: TJ4_append_bf812_7
def TJ4_append_bf812_5 : List UInt8 := 87 :: TJ4_append_bf812_6
def TJ4_append_bf812_2 : List UInt8 := 183 :: 0 :: 53 :: TJ4_append_bf812_5
def TJ4_append_bf812_1 : List UInt8 := 27 :: TJ4_append_bf812_2
def TJ4_append_bf812_0 : List UInt8 := 42 :: TJ4_append_bf812_1
theorem DJ4_append_bf812_0 : cJ4_append_bf812.data.toList.drop 0 = TJ4_append_bf812_0 := by decide +kernel
theorem DJ4_append_bf812_1 : cJ4_append_bf812.data.toList.drop 1 = TJ4_append_bf812_1 := dr1 DJ4_append_bf812_0
theorem DJ4_append_bf812_2 : cJ4_append_bf812.data.toList.drop 2 = TJ4_append_bf812_2 := dr1 DJ4_append_bf812_1
theorem DJ4_append_bf812_5 : cJ4_append_bf812.data.toList.drop 5 = TJ4_append_bf812_5 := dr3 DJ4_append_bf812_2
theorem DJ4_append_bf812_6 : cJ4_append_bf812.data.toList.drop 6 = TJ4_append_bf812_6 := dr1 DJ4_append_bf812_5
theorem DJ4_append_bf812_7 : cJ4_append_bf812.data.toList.drop 7 = TJ4_append_bf812_7 := dr1 DJ4_append_bf812_6
theorem dJ4_append_bf812_0 : decode cJ4_append_bf812 0 = .ok (.aload_n 0, 1) := do_2a DJ4_append_bf812_0
theorem dJ4_append_bf812_1 : decode cJ4_append_bf812 1 = .ok (.iload_n 1, 1) := do_1b DJ4_append_bf812_1
theorem dJ4_append_bf812_2 : decode cJ4_append_bf812 2 = .ok (.invokespecial 53, 3) := do_b7 DJ4_append_bf812_2
theorem dJ4_append_bf812_5 : decode cJ4_append_bf812 5 = .ok (.pop, 1) := do_57 DJ4_append_bf812_5
theorem dJ4_append_bf812_6 : decode cJ4_append_bf812 6 = .ok (.aload_n 0, 1) := do_2a DJ4_append_bf812_6
theorem dJ4_append_bf812_7 : decode cJ4_append_bf812 7 = .ok (.areturn, 1) := do_b0 DJ4_append_bf812_7
def TJ4_reverse_43fcb_7 : List UInt8 := []
def TJ4_reverse_43fcb_6 : List UInt8 := 176 :: TJ4_reverse_43fcb_7
def TJ4_reverse_43fcb_5 : List UInt8 := 42 :: TJ4_reverse_43fcb_6
def TJ4_reverse_43fcb_4 : List UInt8 := 87 :: TJ4_reverse_43fcb_5
def TJ4_reverse_43fcb_1 : List UInt8 := 183 :: 0 :: 127 :: TJ4_reverse_43fcb_4
def TJ4_reverse_43fcb_0 : List UInt8 := 42 :: TJ4_reverse_43fcb_1
theorem DJ4_reverse_43fcb_0 : cJ4_reverse_43fcb.data.toList.drop 0 = TJ4_reverse_43fcb_0 := by decide +kernel
theorem DJ4_reverse_43fcb_1 : cJ4_reverse_43fcb.data.toList.drop 1 = TJ4_reverse_43fcb_1 := dr1 DJ4_reverse_43fcb_0
theorem DJ4_reverse_43fcb_4 : cJ4_reverse_43fcb.data.toList.drop 4 = TJ4_reverse_43fcb_4 := dr3 DJ4_reverse_43fcb_1
theorem DJ4_reverse_43fcb_5 : cJ4_reverse_43fcb.data.toList.drop 5 = TJ4_reverse_43fcb_5 := dr1 DJ4_reverse_43fcb_4
theorem DJ4_reverse_43fcb_6 : cJ4_reverse_43fcb.data.toList.drop 6 = TJ4_reverse_43fcb_6 := dr1 DJ4_reverse_43fcb_5
theorem dJ4_reverse_43fcb_0 : decode cJ4_reverse_43fcb 0 = .ok (.aload_n 0, 1) := do_2a DJ4_reverse_43fcb_0
theorem dJ4_reverse_43fcb_1 : decode cJ4_reverse_43fcb 1 = .ok (.invokespecial 127, 3) := do_b7 DJ4_reverse_43fcb_1
theorem dJ4_reverse_43fcb_4 : decode cJ4_reverse_43fcb 4 = .ok (.pop, 1) := do_57 DJ4_reverse_43fcb_4
theorem dJ4_reverse_43fcb_5 : decode cJ4_reverse_43fcb 5 = .ok (.aload_n 0, 1) := do_2a DJ4_reverse_43fcb_5
theorem dJ4_reverse_43fcb_6 : decode cJ4_reverse_43fcb 6 = .ok (.areturn, 1) := do_b0 DJ4_reverse_43fcb_6
def TJ4_toString_0e30d_9 : List UInt8 := []
def TJ4_toString_0e30d_8 : List UInt8 := 176 :: TJ4_toString_0e30d_9
def TJ4_toString_0e30d_5 : List UInt8 := 183 :: 0 :: 137 :: TJ4_toString_0e30d_8
def TJ4_toString_0e30d_4 : List UInt8 := 42 :: TJ4_toString_0e30d_5
def TJ4_toString_0e30d_3 : List UInt8 := 89 :: TJ4_toString_0e30d_4
def TJ4_toString_0e30d_0 : List UInt8 := 187 :: 0 :: 18 :: TJ4_toString_0e30d_3
theorem DJ4_toString_0e30d_0 : cJ4_toString_0e30d.data.toList.drop 0 = TJ4_toString_0e30d_0 := by decide +kernel
theorem DJ4_toString_0e30d_3 : cJ4_toString_0e30d.data.toList.drop 3 = TJ4_toString_0e30d_3 := dr3 DJ4_toString_0e30d_0
theorem DJ4_toString_0e30d_4 : cJ4_toString_0e30d.data.toList.drop 4 = TJ4_toString_0e30d_4 := dr1 DJ4_toString_0e30d_3
theorem DJ4_toString_0e30d_5 : cJ4_toString_0e30d.data.toList.drop 5 = TJ4_toString_0e30d_5 := dr1 DJ4_toString_0e30d_4
theorem DJ4_toString_0e30d_8 : cJ4_toString_0e30d.data.toList.drop 8 = TJ4_toString_0e30d_8 := dr3 DJ4_toString_0e30d_5
theorem dJ4_toString_0e30d_0 : decode cJ4_toString_0e30d 0 = .ok (.new 18, 3) := do_bb DJ4_toString_0e30d_0
theorem dJ4_toString_0e30d_3 : decode cJ4_toString_0e30d 3 = .ok (.dup, 1) := do_59 DJ4_toString_0e30d_3
theorem dJ4_toString_0e30d_4 : decode cJ4_toString_0e30d 4 = .ok (.aload_n 0, 1) := do_2a DJ4_toString_0e30d_4
theorem dJ4_toString_0e30d_5 : decode cJ4_toString_0e30d 5 = .ok (.invokespecial 137, 3) := do_b7 DJ4_toString_0e30d_5
theorem dJ4_toString_0e30d_8 : decode cJ4_toString_0e30d 8 = .ok (.areturn, 1) := do_b0 DJ4_toString_0e30d_8
def TJ4_charAt_5068e_6 : List UInt8 := []
def TJ4_charAt_5068e_5 : List UInt8 := 172 :: TJ4_charAt_5068e_6
def TJ4_charAt_5068e_2 : List UInt8 := 183 :: 1 :: 73 :: TJ4_charAt_5068e_5
def TJ4_charAt_5068e_1 : List UInt8 := 27 :: TJ4_charAt_5068e_2
def TJ4_charAt_5068e_0 : List UInt8 := 42 :: TJ4_charAt_5068e_1
theorem DJ4_charAt_5068e_0 : cJ4_charAt_5068e.data.toList.drop 0 = TJ4_charAt_5068e_0 := by decide +kernel
theorem DJ4_charAt_5068e_1 : cJ4_charAt_5068e.data.toList.drop 1 = TJ4_charAt_5068e_1 := dr1 DJ4_charAt_5068e_0
theorem DJ4_charAt_5068e_2 : cJ4_charAt_5068e.data.toList.drop 2 = TJ4_charAt_5068e_2 := dr1 DJ4_charAt_5068e_1
theorem DJ4_charAt_5068e_5 : cJ4_charAt_5068e.data.toList.drop 5 = TJ4_charAt_5068e_5 := dr3 DJ4_charAt_5068e_2
theorem dJ4_charAt_5068e_0 : decode cJ4_charAt_5068e 0 = .ok (.aload_n 0, 1) := do_2a DJ4_charAt_5068e_0
theorem dJ4_charAt_5068e_1 : decode cJ4_charAt_5068e 1 = .ok (.iload_n 1, 1) := do_1b DJ4_charAt_5068e_1
theorem dJ4_charAt_5068e_2 : decode cJ4_charAt_5068e 2 = .ok (.invokespecial 329, 3) := do_b7 DJ4_charAt_5068e_2
theorem dJ4_charAt_5068e_5 : decode cJ4_charAt_5068e 5 = .ok (.ireturn, 1) := do_ac DJ4_charAt_5068e_5
def TJ4_setLength_d00df_6 : List UInt8 := []
def TJ4_setLength_d00df_5 : List UInt8 := 177 :: TJ4_setLength_d00df_6
def TJ4_setLength_d00df_2 : List UInt8 := 183 :: 1 :: 77 :: TJ4_setLength_d00df_5
def TJ4_setLength_d00df_1 : List UInt8 := 27 :: TJ4_setLength_d00df_2
def TJ4_setLength_d00df_0 : List UInt8 := 42 :: TJ4_setLength_d00df_1
theorem DJ4_setLength_d00df_0 : cJ4_setLength_d00df.data.toList.drop 0 = TJ4_setLength_d00df_0 := by decide +kernel
theorem DJ4_setLength_d00df_1 : cJ4_setLength_d00df.data.toList.drop 1 = TJ4_setLength_d00df_1 := dr1 DJ4_setLength_d00df_0
theorem DJ4_setLength_d00df_2 : cJ4_setLength_d00df.data.toList.drop 2 = TJ4_setLength_d00df_2 := dr1 DJ4_setLength_d00df_1
theorem DJ4_setLength_d00df_5 : cJ4_setLength_d00df.data.toList.drop 5 = TJ4_setLength_d00df_5 := dr3 DJ4_setLength_d00df_2
theorem dJ4_setLength_d00df_0 : decode cJ4_setLength_d00df 0 = .ok (.aload_n 0, 1) := do_2a DJ4_setLength_d00df_0
theorem dJ4_setLength_d00df_1 : decode cJ4_setLength_d00df 1 = .ok (.iload_n 1, 1) := do_1b DJ4_setLength_d00df_1
theorem dJ4_setLength_d00df_2 : decode cJ4_setLength_d00df 2 = .ok (.invokespecial 333, 3) := do_b7 DJ4_setLength_d00df_2
theorem dJ4_setLength_d00df_5 : decode cJ4_setLength_d00df 5 = .ok (.return_, 1) := do_b1 DJ4_setLength_d00df_5
def TJ4_length_8abf5_5 : List UInt8 := []
def TJ4_length_8abf5_4 : List UInt8 := 172 :: TJ4_length_8abf5_5
def TJ4_length_8abf5_1 : List UInt8 := 183 :: 1 :: 87 :: TJ4_length_8abf5_4
def TJ4_length_8abf5_0 : List UInt8 := 42 :: TJ4_length_8abf5_1
theorem DJ4_length_8abf5_0 : cJ4_length_8abf5.data.toList.drop 0 = TJ4_length_8abf5_0 := by decide +kernel
theorem DJ4_length_8abf5_1 : cJ4_length_8abf5.data.toList.drop 1 = TJ4_length_8abf5_1 := dr1 DJ4_length_8abf5_0
theorem DJ4_length_8abf5_4 : cJ4_length_8abf5.data.toList.drop 4 = TJ4_length_8abf5_4 := dr3 DJ4_length_8abf5_1
theorem dJ4_length_8abf5_0 : decode cJ4_length_8abf5 0 = .ok (.aload_n 0, 1) := do_2a DJ4_length_8abf5_0
theorem dJ4_length_8abf5_1 : decode cJ4_length_8abf5 1 = .ok (.invokespecial 343, 3) := do_b7 DJ4_length_8abf5_1
theorem dJ4_length_8abf5_4 : decode cJ4_length_8abf5 4 = .ok (.ireturn, 1) := do_ac DJ4_length_8abf5_4
def TJx7c733_init_d00df_24 : List UInt8 := []
def TJx7c733_init_d00df_23 : List UInt8 := 177 :: TJx7c733_init_d00df_24
def TJx7c733_init_d00df_20 : List UInt8 := 183 :: 0 :: 7 :: TJx7c733_init_d00df_23
def TJx7c733_init_d00df_17 : List UInt8 := 182 :: 0 :: 22 :: TJx7c733_init_d00df_20
def TJx7c733_init_d00df_14 : List UInt8 := 182 :: 0 :: 19 :: TJx7c733_init_d00df_17
def TJx7c733_init_d00df_13 : List UInt8 := 27 :: TJx7c733_init_d00df_14
def TJx7c733_init_d00df_10 : List UInt8 := 182 :: 0 :: 15 :: TJx7c733_init_d00df_13
def TJx7c733_init_d00df_8 : List UInt8 := 18 :: 13 :: TJx7c733_init_d00df_10
def TJx7c733_init_d00df_5 : List UInt8 := 183 :: 0 :: 12 :: TJx7c733_init_d00df_8
def TJx7c733_init_d00df_4 : List UInt8 := 89 :: TJx7c733_init_d00df_5
def TJx7c733_init_d00df_1 : List UInt8 := 187 :: 0 :: 10 :: TJx7c733_init_d00df_4
def TJx7c733_init_d00df_0 : List UInt8 := 42 :: TJx7c733_init_d00df_1
theorem DJx7c733_init_d00df_0 : cJx7c733_init_d00df.data.toList.drop 0 = TJx7c733_init_d00df_0 := by decide +kernel
theorem DJx7c733_init_d00df_1 : cJx7c733_init_d00df.data.toList.drop 1 = TJx7c733_init_d00df_1 := dr1 DJx7c733_init_d00df_0
theorem DJx7c733_init_d00df_4 : cJx7c733_init_d00df.data.toList.drop 4 = TJx7c733_init_d00df_4 := dr3 DJx7c733_init_d00df_1
theorem DJx7c733_init_d00df_5 : cJx7c733_init_d00df.data.toList.drop 5 = TJx7c733_init_d00df_5 := dr1 DJx7c733_init_d00df_4
theorem DJx7c733_init_d00df_8 : cJx7c733_init_d00df.data.toList.drop 8 = TJx7c733_init_d00df_8 := dr3 DJx7c733_init_d00df_5
theorem DJx7c733_init_d00df_10 : cJx7c733_init_d00df.data.toList.drop 10 = TJx7c733_init_d00df_10 := dr2 DJx7c733_init_d00df_8
theorem DJx7c733_init_d00df_13 : cJx7c733_init_d00df.data.toList.drop 13 = TJx7c733_init_d00df_13 := dr3 DJx7c733_init_d00df_10
theorem DJx7c733_init_d00df_14 : cJx7c733_init_d00df.data.toList.drop 14 = TJx7c733_init_d00df_14 := dr1 DJx7c733_init_d00df_13
theorem DJx7c733_init_d00df_17 : cJx7c733_init_d00df.data.toList.drop 17 = TJx7c733_init_d00df_17 := dr3 DJx7c733_init_d00df_14
theorem DJx7c733_init_d00df_20 : cJx7c733_init_d00df.data.toList.drop 20 = TJx7c733_init_d00df_20 := dr3 DJx7c733_init_d00df_17
theorem DJx7c733_init_d00df_23 : cJx7c733_init_d00df.data.toList.drop 23 = TJx7c733_init_d00df_23 := dr3 DJx7c733_init_d00df_20
theorem dJx7c733_init_d00df_0 : decode cJx7c733_init_d00df 0 = .ok (.aload_n 0, 1) := do_2a DJx7c733_init_d00df_0
theorem dJx7c733_init_d00df_1 : decode cJx7c733_init_d00df 1 = .ok (.new 10, 3) := do_bb DJx7c733_init_d00df_1
theorem dJx7c733_init_d00df_4 : decode cJx7c733_init_d00df 4 = .ok (.dup, 1) := do_59 DJx7c733_init_d00df_4
theorem dJx7c733_init_d00df_5 : decode cJx7c733_init_d00df 5 = .ok (.invokespecial 12, 3) := do_b7 DJx7c733_init_d00df_5
theorem dJx7c733_init_d00df_8 : decode cJx7c733_init_d00df 8 = .ok (.ldc 13, 2) := by decide +kernel
theorem dJx7c733_init_d00df_10 : decode cJx7c733_init_d00df 10 = .ok (.invokevirtual 15, 3) := do_b6 DJx7c733_init_d00df_10
theorem dJx7c733_init_d00df_13 : decode cJx7c733_init_d00df 13 = .ok (.iload_n 1, 1) := do_1b DJx7c733_init_d00df_13
theorem dJx7c733_init_d00df_14 : decode cJx7c733_init_d00df 14 = .ok (.invokevirtual 19, 3) := do_b6 DJx7c733_init_d00df_14
theorem dJx7c733_init_d00df_17 : decode cJx7c733_init_d00df 17 = .ok (.invokevirtual 22, 3) := do_b6 DJx7c733_init_d00df_17
theorem dJx7c733_init_d00df_20 : decode cJx7c733_init_d00df 20 = .ok (.invokespecial 7, 3) := do_b7 DJx7c733_init_d00df_20
theorem dJx7c733_init_d00df_23 : decode cJx7c733_init_d00df 23 = .ok (.return_, 1) := do_b1 DJx7c733_init_d00df_23
def TJ1_charAt_3b067_15 : List UInt8 := []
def TJ1_charAt_3b067_14 : List UInt8 := 172 :: TJ1_charAt_3b067_15
def TJ1_charAt_3b067_13 : List UInt8 := 146 :: TJ1_charAt_3b067_14
def TJ1_charAt_3b067_12 : List UInt8 := 126 :: TJ1_charAt_3b067_13
def TJ1_charAt_3b067_9 : List UInt8 := 17 :: 0 :: 255 :: TJ1_charAt_3b067_12
def TJ1_charAt_3b067_8 : List UInt8 := 51 :: TJ1_charAt_3b067_9
def TJ1_charAt_3b067_7 : List UInt8 := 27 :: TJ1_charAt_3b067_8
def TJ1_charAt_3b067_6 : List UInt8 := 42 :: TJ1_charAt_3b067_7
def TJ1_charAt_3b067_3 : List UInt8 := 184 :: 0 :: 9 :: TJ1_charAt_3b067_6
def TJ1_charAt_3b067_2 : List UInt8 := 190 :: TJ1_charAt_3b067_3
def TJ1_charAt_3b067_1 : List UInt8 := 42 :: TJ1_charAt_3b067_2
def TJ1_charAt_3b067_0 : List UInt8 := 27 :: TJ1_charAt_3b067_1
theorem DJ1_charAt_3b067_0 : cJ1_charAt_3b067.data.toList.drop 0 = TJ1_charAt_3b067_0 := by decide +kernel
theorem DJ1_charAt_3b067_1 : cJ1_charAt_3b067.data.toList.drop 1 = TJ1_charAt_3b067_1 := dr1 DJ1_charAt_3b067_0
theorem DJ1_charAt_3b067_2 : cJ1_charAt_3b067.data.toList.drop 2 = TJ1_charAt_3b067_2 := dr1 DJ1_charAt_3b067_1
theorem DJ1_charAt_3b067_3 : cJ1_charAt_3b067.data.toList.drop 3 = TJ1_charAt_3b067_3 := dr1 DJ1_charAt_3b067_2
theorem DJ1_charAt_3b067_6 : cJ1_charAt_3b067.data.toList.drop 6 = TJ1_charAt_3b067_6 := dr3 DJ1_charAt_3b067_3
theorem DJ1_charAt_3b067_7 : cJ1_charAt_3b067.data.toList.drop 7 = TJ1_charAt_3b067_7 := dr1 DJ1_charAt_3b067_6
theorem DJ1_charAt_3b067_8 : cJ1_charAt_3b067.data.toList.drop 8 = TJ1_charAt_3b067_8 := dr1 DJ1_charAt_3b067_7
theorem DJ1_charAt_3b067_9 : cJ1_charAt_3b067.data.toList.drop 9 = TJ1_charAt_3b067_9 := dr1 DJ1_charAt_3b067_8
theorem DJ1_charAt_3b067_12 : cJ1_charAt_3b067.data.toList.drop 12 = TJ1_charAt_3b067_12 := dr3 DJ1_charAt_3b067_9
theorem DJ1_charAt_3b067_13 : cJ1_charAt_3b067.data.toList.drop 13 = TJ1_charAt_3b067_13 := dr1 DJ1_charAt_3b067_12
theorem DJ1_charAt_3b067_14 : cJ1_charAt_3b067.data.toList.drop 14 = TJ1_charAt_3b067_14 := dr1 DJ1_charAt_3b067_13
theorem dJ1_charAt_3b067_0 : decode cJ1_charAt_3b067 0 = .ok (.iload_n 1, 1) := do_1b DJ1_charAt_3b067_0
theorem dJ1_charAt_3b067_1 : decode cJ1_charAt_3b067 1 = .ok (.aload_n 0, 1) := do_2a DJ1_charAt_3b067_1
theorem dJ1_charAt_3b067_2 : decode cJ1_charAt_3b067 2 = .ok (.arraylength, 1) := do_be DJ1_charAt_3b067_2
theorem dJ1_charAt_3b067_3 : decode cJ1_charAt_3b067 3 = .ok (.invokestatic 9, 3) := do_b8 DJ1_charAt_3b067_3
theorem dJ1_charAt_3b067_6 : decode cJ1_charAt_3b067 6 = .ok (.aload_n 0, 1) := do_2a DJ1_charAt_3b067_6
theorem dJ1_charAt_3b067_7 : decode cJ1_charAt_3b067 7 = .ok (.iload_n 1, 1) := do_1b DJ1_charAt_3b067_7
theorem dJ1_charAt_3b067_8 : decode cJ1_charAt_3b067 8 = .ok (.baload, 1) := do_33 DJ1_charAt_3b067_8
theorem dJ1_charAt_3b067_9 : decode cJ1_charAt_3b067 9 = .ok (.sipush 255, 3) := do_11 DJ1_charAt_3b067_9 (by decide +kernel)
theorem dJ1_charAt_3b067_12 : decode cJ1_charAt_3b067 12 = .ok (.iand, 1) := do_7e DJ1_charAt_3b067_12
theorem dJ1_charAt_3b067_13 : decode cJ1_charAt_3b067 13 = .ok (.i2c, 1) := do_92 DJ1_charAt_3b067_13
theorem dJ1_charAt_3b067_14 : decode cJ1_charAt_3b067 14 = .ok (.ireturn, 1) := do_ac DJ1_charAt_3b067_14
def TJ1_canEncode_fc78d_13 : List UInt8 := []
def TJ1_canEncode_fc78d_12 : List UInt8 := 172 :: TJ1_canEncode_fc78d_13
def TJ1_canEncode_fc78d_11 : List UInt8 := 3 :: TJ1_canEncode_fc78d_12
def TJ1_canEncode_fc78d_8 : List UInt8 := 167 :: 0 :: 4 :: TJ1_canEncode_fc78d_11
def TJ1_canEncode_fc78d_7 : List UInt8 := 4 :: TJ1_canEncode_fc78d_8
def TJ1_canEncode_fc78d_4 : List UInt8 := 163 :: 0 :: 7 :: TJ1_canEncode_fc78d_7
def TJ1_canEncode_fc78d_1 : List UInt8 := 17 :: 0 :: 255 :: TJ1_canEncode_fc78d_4
def TJ1_canEncode_fc78d_0 : List UInt8 := 26 :: TJ1_canEncode_fc78d_1
theorem DJ1_canEncode_fc78d_0 : cJ1_canEncode_fc78d.data.toList.drop 0 = TJ1_canEncode_fc78d_0 := by decide +kernel
theorem DJ1_canEncode_fc78d_1 : cJ1_canEncode_fc78d.data.toList.drop 1 = TJ1_canEncode_fc78d_1 := dr1 DJ1_canEncode_fc78d_0
theorem DJ1_canEncode_fc78d_4 : cJ1_canEncode_fc78d.data.toList.drop 4 = TJ1_canEncode_fc78d_4 := dr3 DJ1_canEncode_fc78d_1
theorem DJ1_canEncode_fc78d_7 : cJ1_canEncode_fc78d.data.toList.drop 7 = TJ1_canEncode_fc78d_7 := dr3 DJ1_canEncode_fc78d_4
theorem DJ1_canEncode_fc78d_8 : cJ1_canEncode_fc78d.data.toList.drop 8 = TJ1_canEncode_fc78d_8 := dr1 DJ1_canEncode_fc78d_7
theorem DJ1_canEncode_fc78d_11 : cJ1_canEncode_fc78d.data.toList.drop 11 = TJ1_canEncode_fc78d_11 := dr3 DJ1_canEncode_fc78d_8
theorem DJ1_canEncode_fc78d_12 : cJ1_canEncode_fc78d.data.toList.drop 12 = TJ1_canEncode_fc78d_12 := dr1 DJ1_canEncode_fc78d_11
theorem dJ1_canEncode_fc78d_0 : decode cJ1_canEncode_fc78d 0 = .ok (.iload_n 0, 1) := do_1a DJ1_canEncode_fc78d_0
theorem dJ1_canEncode_fc78d_1 : decode cJ1_canEncode_fc78d 1 = .ok (.sipush 255, 3) := do_11 DJ1_canEncode_fc78d_1 (by decide +kernel)
theorem dJ1_canEncode_fc78d_4 : decode cJ1_canEncode_fc78d 4 = .ok (.if_icmp .gt 7, 3) := do_a3 DJ1_canEncode_fc78d_4 (by decide +kernel)
theorem dJ1_canEncode_fc78d_7 : decode cJ1_canEncode_fc78d 7 = .ok (.iconst 1, 1) := do_04 DJ1_canEncode_fc78d_7
theorem dJ1_canEncode_fc78d_8 : decode cJ1_canEncode_fc78d 8 = .ok (.goto 4, 3) := do_a7 DJ1_canEncode_fc78d_8 (by decide +kernel)
theorem dJ1_canEncode_fc78d_11 : decode cJ1_canEncode_fc78d 11 = .ok (.iconst 0, 1) := do_03 DJ1_canEncode_fc78d_11
theorem dJ1_canEncode_fc78d_12 : decode cJ1_canEncode_fc78d 12 = .ok (.ireturn, 1) := do_ac DJ1_canEncode_fc78d_12
def TJ1_fillNull_b72d1_8 : List UInt8 := []
def TJ1_fillNull_b72d1_7 : List UInt8 := 177 :: TJ1_fillNull_b72d1_8
def TJ1_fillNull_b72d1_4 : List UInt8 := 184 :: 0 :: 236 :: TJ1_fillNull_b72d1_7
def TJ1_fillNull_b72d1_3 : List UInt8 := 3 :: TJ1_fillNull_b72d1_4
def TJ1_fillNull_b72d1_2 : List UInt8 := 28 :: TJ1_fillNull_b72d1_3
def TJ1_fillNull_b72d1_1 : List UInt8 := 27 :: TJ1_fillNull_b72d1_2
def TJ1_fillNull_b72d1_0 : List UInt8 := 42 :: TJ1_fillNull_b72d1_1
theorem DJ1_fillNull_b72d1_0 : cJ1_fillNull_b72d1.data.toList.drop 0 = TJ1_fillNull_b72d1_0 := by decide +kernel
theorem DJ1_fillNull_b72d1_1 : cJ1_fillNull_b72d1.data.toList.drop 1 = TJ1_fillNull_b72d1_1 := dr1 DJ1_fillNull_b72d1_0
theorem DJ1_fillNull_b72d1_2 : cJ1_fillNull_b72d1.data.toList.drop 2 = TJ1_fillNull_b72d1_2 := dr1 DJ1_fillNull_b72d1_1
theorem DJ1_fillNull_b72d1_3 : cJ1_fillNull_b72d1.data.toList.drop 3 = TJ1_fillNull_b72d1_3 := dr1 DJ1_fillNull_b72d1_2
theorem DJ1_fillNull_b72d1_4 : cJ1_fillNull_b72d1.data.toList.drop 4 = TJ1_fillNull_b72d1_4 := dr1 DJ1_fillNull_b72d1_3
theorem DJ1_fillNull_b72d1_7 : cJ1_fillNull_b72d1.data.toList.drop 7 = TJ1_fillNull_b72d1_7 := dr3 DJ1_fillNull_b72d1_4
theorem dJ1_fillNull_b72d1_0 : decode cJ1_fillNull_b72d1 0 = .ok (.aload_n 0, 1) := do_2a DJ1_fillNull_b72d1_0
theorem dJ1_fillNull_b72d1_1 : decode cJ1_fillNull_b72d1 1 = .ok (.iload_n 1, 1) := do_1b DJ1_fillNull_b72d1_1
theorem dJ1_fillNull_b72d1_2 : decode cJ1_fillNull_b72d1 2 = .ok (.iload_n 2, 1) := do_1c DJ1_fillNull_b72d1_2
theorem dJ1_fillNull_b72d1_3 : decode cJ1_fillNull_b72d1 3 = .ok (.iconst 0, 1) := do_03 DJ1_fillNull_b72d1_3
theorem dJ1_fillNull_b72d1_4 : decode cJ1_fillNull_b72d1 4 = .ok (.invokestatic 236, 3) := do_b8 DJ1_fillNull_b72d1_4
theorem dJ1_fillNull_b72d1_7 : decode cJ1_fillNull_b72d1 7 = .ok (.return_, 1) := do_b1 DJ1_fillNull_b72d1_7
def TJ1_inflate_0e8fd_10 : List UInt8 := []
def TJ1_inflate_0e8fd_9 : List UInt8 := 177 :: TJ1_inflate_0e8fd_10
def TJ1_inflate_0e8fd_6 : List UInt8 := 184 :: 0 :: 240 :: TJ1_inflate_0e8fd_9
def TJ1_inflate_0e8fd_4 : List UInt8 := 21 :: 4 :: TJ1_inflate_0e8fd_6
def TJ1_inflate_0e8fd_3 : List UInt8 := 29 :: TJ1_inflate_0e8fd_4
def TJ1_inflate_0e8fd_2 : List UInt8 := 44 :: TJ1_inflate_0e8fd_3
def TJ1_inflate_0e8fd_1 : List UInt8 := 27 :: TJ1_inflate_0e8fd_2
def TJ1_inflate_0e8fd_0 : List UInt8 := 42 :: TJ1_inflate_0e8fd_1
theorem DJ1_inflate_0e8fd_0 : cJ1_inflate_0e8fd.data.toList.drop 0 = TJ1_inflate_0e8fd_0 := by decide +kernel
theorem DJ1_inflate_0e8fd_1 : cJ1_inflate_0e8fd.data.toList.drop 1 = TJ1_inflate_0e8fd_1 := dr1 DJ1_inflate_0e8fd_0
theorem DJ1_inflate_0e8fd_2 : cJ1_inflate_0e8fd.data.toList.drop 2 = TJ1_inflate_0e8fd_2 := dr1 DJ1_inflate_0e8fd_1
theorem DJ1_inflate_0e8fd_3 : cJ1_inflate_0e8fd.data.toList.drop 3 = TJ1_inflate_0e8fd_3 := dr1 DJ1_inflate_0e8fd_2
theorem DJ1_inflate_0e8fd_4 : cJ1_inflate_0e8fd.data.toList.drop 4 = TJ1_inflate_0e8fd_4 := dr1 DJ1_inflate_0e8fd_3
theorem DJ1_inflate_0e8fd_6 : cJ1_inflate_0e8fd.data.toList.drop 6 = TJ1_inflate_0e8fd_6 := dr2 DJ1_inflate_0e8fd_4
theorem DJ1_inflate_0e8fd_9 : cJ1_inflate_0e8fd.data.toList.drop 9 = TJ1_inflate_0e8fd_9 := dr3 DJ1_inflate_0e8fd_6
theorem dJ1_inflate_0e8fd_0 : decode cJ1_inflate_0e8fd 0 = .ok (.aload_n 0, 1) := do_2a DJ1_inflate_0e8fd_0
theorem dJ1_inflate_0e8fd_1 : decode cJ1_inflate_0e8fd 1 = .ok (.iload_n 1, 1) := do_1b DJ1_inflate_0e8fd_1
theorem dJ1_inflate_0e8fd_2 : decode cJ1_inflate_0e8fd 2 = .ok (.aload_n 2, 1) := do_2c DJ1_inflate_0e8fd_2
theorem dJ1_inflate_0e8fd_3 : decode cJ1_inflate_0e8fd 3 = .ok (.iload_n 3, 1) := do_1d DJ1_inflate_0e8fd_3
theorem dJ1_inflate_0e8fd_4 : decode cJ1_inflate_0e8fd 4 = .ok (.iload 4, 2) := do_15 DJ1_inflate_0e8fd_4
theorem dJ1_inflate_0e8fd_6 : decode cJ1_inflate_0e8fd 6 = .ok (.invokestatic 240, 3) := do_b8 DJ1_inflate_0e8fd_6
theorem dJ1_inflate_0e8fd_9 : decode cJ1_inflate_0e8fd 9 = .ok (.return_, 1) := do_b1 DJ1_inflate_0e8fd_9
def TJ2_newBytesFor_77867_7 : List UInt8 := []
def TJ2_newBytesFor_77867_6 : List UInt8 := 176 :: TJ2_newBytesFor_77867_7
def TJ2_newBytesFor_77867_4 : List UInt8 := 188 :: 8 :: TJ2_newBytesFor_77867_6
def TJ2_newBytesFor_77867_1 : List UInt8 := 184 :: 0 :: 11 :: TJ2_newBytesFor_77867_4
def TJ2_newBytesFor_77867_0 : List UInt8 := 26 :: TJ2_newBytesFor_77867_1
theorem DJ2_newBytesFor_77867_0 : cJ2_newBytesFor_77867.data.toList.drop 0 = TJ2_newBytesFor_77867_0 := by decide +kernel
theorem DJ2_newBytesFor_77867_1 : cJ2_newBytesFor_77867.data.toList.drop 1 = TJ2_newBytesFor_77867_1 := dr1 DJ2_newBytesFor_77867_0
theorem DJ2_newBytesFor_77867_4 : cJ2_newBytesFor_77867.data.toList.drop 4 = TJ2_newBytesFor_77867_4 := dr3 DJ2_newBytesFor_77867_1
theorem DJ2_newBytesFor_77867_6 : cJ2_newBytesFor_77867.data.toList.drop 6 = TJ2_newBytesFor_77867_6 := dr2 DJ2_newBytesFor_77867_4
theorem dJ2_newBytesFor_77867_0 : decode cJ2_newBytesFor_77867 0 = .ok (.iload_n 0, 1) := do_1a DJ2_newBytesFor_77867_0
theorem dJ2_newBytesFor_77867_1 : decode cJ2_newBytesFor_77867 1 = .ok (.invokestatic 11, 3) := do_b8 DJ2_newBytesFor_77867_1
theorem dJ2_newBytesFor_77867_4 : decode cJ2_newBytesFor_77867 4 = .ok (.newarray .byte, 2) := by decide +kernel
theorem dJ2_newBytesFor_77867_6 : decode cJ2_newBytesFor_77867 6 = .ok (.areturn, 1) := do_b0 DJ2_newBytesFor_77867_6
def TJ2_newBytesLength_0f7a4_59 : List UInt8 := []
def TJ2_newBytesLength_0f7a4_58 : List UInt8 := 172 :: TJ2_newBytesLength_0f7a4_59
def TJ2_newBytesLength_0f7a4_57 : List UInt8 := 120 :: TJ2_newBytesLength_0f7a4_58
def TJ2_newBytesLength_0f7a4_56 : List UInt8 := 4 :: TJ2_newBytesLength_0f7a4_57
def TJ2_newBytesLength_0f7a4_55 : List UInt8 := 26 :: TJ2_newBytesLength_0f7a4_56
def TJ2_newBytesLength_0f7a4_54 : List UInt8 := 191 :: TJ2_newBytesLength_0f7a4_55
def TJ2_newBytesLength_0f7a4_51 : List UInt8 := 183 :: 0 :: 41 :: TJ2_newBytesLength_0f7a4_54
def TJ2_newBytesLength_0f7a4_48 : List UInt8 := 182 :: 0 :: 37 :: TJ2_newBytesLength_0f7a4_51
def TJ2_newBytesLength_0f7a4_45 : List UInt8 := 182 :: 0 :: 32 :: TJ2_newBytesLength_0f7a4_48
def TJ2_newBytesLength_0f7a4_43 : List UInt8 := 18 :: 20 :: TJ2_newBytesLength_0f7a4_45
def TJ2_newBytesLength_0f7a4_40 : List UInt8 := 182 :: 0 :: 28 :: TJ2_newBytesLength_0f7a4_43
def TJ2_newBytesLength_0f7a4_38 : List UInt8 := 18 :: 35 :: TJ2_newBytesLength_0f7a4_40
def TJ2_newBytesLength_0f7a4_35 : List UInt8 := 182 :: 0 :: 32 :: TJ2_newBytesLength_0f7a4_38
def TJ2_newBytesLength_0f7a4_34 : List UInt8 := 26 :: TJ2_newBytesLength_0f7a4_35
def TJ2_newBytesLength_0f7a4_31 : List UInt8 := 182 :: 0 :: 28 :: TJ2_newBytesLength_0f7a4_34
def TJ2_newBytesLength_0f7a4_29 : List UInt8 := 18 :: 26 :: TJ2_newBytesLength_0f7a4_31
def TJ2_newBytesLength_0f7a4_26 : List UInt8 := 183 :: 0 :: 25 :: TJ2_newBytesLength_0f7a4_29
def TJ2_newBytesLength_0f7a4_25 : List UInt8 := 89 :: TJ2_newBytesLength_0f7a4_26
def TJ2_newBytesLength_0f7a4_22 : List UInt8 := 187 :: 0 :: 23 :: TJ2_newBytesLength_0f7a4_25
def TJ2_newBytesLength_0f7a4_21 : List UInt8 := 89 :: TJ2_newBytesLength_0f7a4_22
def TJ2_newBytesLength_0f7a4_18 : List UInt8 := 187 :: 0 :: 21 :: TJ2_newBytesLength_0f7a4_21
def TJ2_newBytesLength_0f7a4_15 : List UInt8 := 161 :: 0 :: 40 :: TJ2_newBytesLength_0f7a4_18
def TJ2_newBytesLength_0f7a4_13 : List UInt8 := 18 :: 20 :: TJ2_newBytesLength_0f7a4_15
def TJ2_newBytesLength_0f7a4_12 : List UInt8 := 26 :: TJ2_newBytesLength_0f7a4_13
def TJ2_newBytesLength_0f7a4_11 : List UInt8 := 191 :: TJ2_newBytesLength_0f7a4_12
def TJ2_newBytesLength_0f7a4_8 : List UInt8 := 183 :: 0 :: 19 :: TJ2_newBytesLength_0f7a4_11
def TJ2_newBytesLength_0f7a4_7 : List UInt8 := 89 :: TJ2_newBytesLength_0f7a4_8
def TJ2_newBytesLength_0f7a4_4 : List UInt8 := 187 :: 0 :: 17 :: TJ2_newBytesLength_0f7a4_7
def TJ2_newBytesLength_0f7a4_1 : List UInt8 := 156 :: 0 :: 11 :: TJ2_newBytesLength_0f7a4_4
def TJ2_newBytesLength_0f7a4_0 : List UInt8 := 26 :: TJ2_newBytesLength_0f7a4_1
theorem DJ2_newBytesLength_0f7a4_0 : cJ2_newBytesLength_0f7a4.data.toList.drop 0 = TJ2_newBytesLength_0f7a4_0 := by decide +kernel
theorem DJ2_newBytesLength_0f7a4_1 : cJ2_newBytesLength_0f7a4.data.toList.drop 1 = TJ2_newBytesLength_0f7a4_1 := dr1 DJ2_newBytesLength_0f7a4_0
theorem DJ2_newBytesLength_0f7a4_4 : cJ2_newBytesLength_0f7a4.data.toList.drop 4 = TJ2_newBytesLength_0f7a4_4 := dr3 DJ2_newBytesLength_0f7a4_1
theorem DJ2_newBytesLength_0f7a4_7 : cJ2_newBytesLength_0f7a4.data.toList.drop 7 = TJ2_newBytesLength_0f7a4_7 := dr3 DJ2_newBytesLength_0f7a4_4
theorem DJ2_newBytesLength_0f7a4_8 : cJ2_newBytesLength_0f7a4.data.toList.drop 8 = TJ2_newBytesLength_0f7a4_8 := dr1 DJ2_newBytesLength_0f7a4_7
theorem DJ2_newBytesLength_0f7a4_11 : cJ2_newBytesLength_0f7a4.data.toList.drop 11 = TJ2_newBytesLength_0f7a4_11 := dr3 DJ2_newBytesLength_0f7a4_8
theorem DJ2_newBytesLength_0f7a4_12 : cJ2_newBytesLength_0f7a4.data.toList.drop 12 = TJ2_newBytesLength_0f7a4_12 := dr1 DJ2_newBytesLength_0f7a4_11
theorem DJ2_newBytesLength_0f7a4_13 : cJ2_newBytesLength_0f7a4.data.toList.drop 13 = TJ2_newBytesLength_0f7a4_13 := dr1 DJ2_newBytesLength_0f7a4_12
theorem DJ2_newBytesLength_0f7a4_15 : cJ2_newBytesLength_0f7a4.data.toList.drop 15 = TJ2_newBytesLength_0f7a4_15 := dr2 DJ2_newBytesLength_0f7a4_13
theorem DJ2_newBytesLength_0f7a4_18 : cJ2_newBytesLength_0f7a4.data.toList.drop 18 = TJ2_newBytesLength_0f7a4_18 := dr3 DJ2_newBytesLength_0f7a4_15
theorem DJ2_newBytesLength_0f7a4_21 : cJ2_newBytesLength_0f7a4.data.toList.drop 21 = TJ2_newBytesLength_0f7a4_21 := dr3 DJ2_newBytesLength_0f7a4_18
theorem DJ2_newBytesLength_0f7a4_22 : cJ2_newBytesLength_0f7a4.data.toList.drop 22 = TJ2_newBytesLength_0f7a4_22 := dr1 DJ2_newBytesLength_0f7a4_21
theorem DJ2_newBytesLength_0f7a4_25 : cJ2_newBytesLength_0f7a4.data.toList.drop 25 = TJ2_newBytesLength_0f7a4_25 := dr3 DJ2_newBytesLength_0f7a4_22
theorem DJ2_newBytesLength_0f7a4_26 : cJ2_newBytesLength_0f7a4.data.toList.drop 26 = TJ2_newBytesLength_0f7a4_26 := dr1 DJ2_newBytesLength_0f7a4_25
theorem DJ2_newBytesLength_0f7a4_29 : cJ2_newBytesLength_0f7a4.data.toList.drop 29 = TJ2_newBytesLength_0f7a4_29 := dr3 DJ2_newBytesLength_0f7a4_26
theorem DJ2_newBytesLength_0f7a4_31 : cJ2_newBytesLength_0f7a4.data.toList.drop 31 = TJ2_newBytesLength_0f7a4_31 := dr2 DJ2_newBytesLength_0f7a4_29
theorem DJ2_newBytesLength_0f7a4_34 : cJ2_newBytesLength_0f7a4.data.toList.drop 34 = TJ2_newBytesLength_0f7a4_34 := dr3 DJ2_newBytesLength_0f7a4_31
theorem DJ2_newBytesLength_0f7a4_35 : cJ2_newBytesLength_0f7a4.data.toList.drop 35 = TJ2_newBytesLength_0f7a4_35 := dr1 DJ2_newBytesLength_0f7a4_34
theorem DJ2_newBytesLength_0f7a4_38 : cJ2_newBytesLength_0f7a4.data.toList.drop 38 = TJ2_newBytesLength_0f7a4_38 := dr3 DJ2_newBytesLength_0f7a4_35
theorem DJ2_newBytesLength_0f7a4_40 : cJ2_newBytesLength_0f7a4.data.toList.drop 40 = TJ2_newBytesLength_0f7a4_40 := dr2 DJ2_newBytesLength_0f7a4_38
theorem DJ2_newBytesLength_0f7a4_43 : cJ2_newBytesLength_0f7a4.data.toList.drop 43 = TJ2_newBytesLength_0f7a4_43 := dr3 DJ2_newBytesLength_0f7a4_40
theorem DJ2_newBytesLength_0f7a4_45 : cJ2_newBytesLength_0f7a4.data.toList.drop 45 = TJ2_newBytesLength_0f7a4_45 := dr2 DJ2_newBytesLength_0f7a4_43
theorem DJ2_newBytesLength_0f7a4_48 : cJ2_newBytesLength_0f7a4.data.toList.drop 48 = TJ2_newBytesLength_0f7a4_48 := dr3 DJ2_newBytesLength_0f7a4_45
theorem DJ2_newBytesLength_0f7a4_51 : cJ2_newBytesLength_0f7a4.data.toList.drop 51 = TJ2_newBytesLength_0f7a4_51 := dr3 DJ2_newBytesLength_0f7a4_48
theorem DJ2_newBytesLength_0f7a4_54 : cJ2_newBytesLength_0f7a4.data.toList.drop 54 = TJ2_newBytesLength_0f7a4_54 := dr3 DJ2_newBytesLength_0f7a4_51
theorem DJ2_newBytesLength_0f7a4_55 : cJ2_newBytesLength_0f7a4.data.toList.drop 55 = TJ2_newBytesLength_0f7a4_55 := dr1 DJ2_newBytesLength_0f7a4_54
theorem DJ2_newBytesLength_0f7a4_56 : cJ2_newBytesLength_0f7a4.data.toList.drop 56 = TJ2_newBytesLength_0f7a4_56 := dr1 DJ2_newBytesLength_0f7a4_55
theorem DJ2_newBytesLength_0f7a4_57 : cJ2_newBytesLength_0f7a4.data.toList.drop 57 = TJ2_newBytesLength_0f7a4_57 := dr1 DJ2_newBytesLength_0f7a4_56
theorem DJ2_newBytesLength_0f7a4_58 : cJ2_newBytesLength_0f7a4.data.toList.drop 58 = TJ2_newBytesLength_0f7a4_58 := dr1 DJ2_newBytesLength_0f7a4_57
theorem dJ2_newBytesLength_0f7a4_0 : decode cJ2_newBytesLength_0f7a4 0 = .ok (.iload_n 0, 1) := do_1a DJ2_newBytesLength_0f7a4_0
theorem dJ2_newBytesLength_0f7a4_1 : decode cJ2_newBytesLength_0f7a4 1 = .ok (.ifCond .ge 11, 3) := do_9c DJ2_newBytesLength_0f7a4_1 (by decide +kernel)
theorem dJ2_newBytesLength_0f7a4_4 : decode cJ2_newBytesLength_0f7a4 4 = .ok (.new 17, 3) := do_bb DJ2_newBytesLength_0f7a4_4
theorem dJ2_newBytesLength_0f7a4_7 : decode cJ2_newBytesLength_0f7a4 7 = .ok (.dup, 1) := do_59 DJ2_newBytesLength_0f7a4_7
theorem dJ2_newBytesLength_0f7a4_8 : decode cJ2_newBytesLength_0f7a4 8 = .ok (.invokespecial 19, 3) := do_b7 DJ2_newBytesLength_0f7a4_8
theorem dJ2_newBytesLength_0f7a4_11 : decode cJ2_newBytesLength_0f7a4 11 = .ok (.athrow, 1) := do_bf DJ2_newBytesLength_0f7a4_11
theorem dJ2_newBytesLength_0f7a4_12 : decode cJ2_newBytesLength_0f7a4 12 = .ok (.iload_n 0, 1) := do_1a DJ2_newBytesLength_0f7a4_12
theorem dJ2_newBytesLength_0f7a4_13 : decode cJ2_newBytesLength_0f7a4 13 = .ok (.ldc 20, 2) := by decide +kernel
theorem dJ2_newBytesLength_0f7a4_15 : decode cJ2_newBytesLength_0f7a4 15 = .ok (.if_icmp .lt 40, 3) := do_a1 DJ2_newBytesLength_0f7a4_15 (by decide +kernel)
theorem dJ2_newBytesLength_0f7a4_18 : decode cJ2_newBytesLength_0f7a4 18 = .ok (.new 21, 3) := do_bb DJ2_newBytesLength_0f7a4_18
theorem dJ2_newBytesLength_0f7a4_21 : decode cJ2_newBytesLength_0f7a4 21 = .ok (.dup, 1) := do_59 DJ2_newBytesLength_0f7a4_21
theorem dJ2_newBytesLength_0f7a4_22 : decode cJ2_newBytesLength_0f7a4 22 = .ok (.new 23, 3) := do_bb DJ2_newBytesLength_0f7a4_22
theorem dJ2_newBytesLength_0f7a4_25 : decode cJ2_newBytesLength_0f7a4 25 = .ok (.dup, 1) := do_59 DJ2_newBytesLength_0f7a4_25
theorem dJ2_newBytesLength_0f7a4_26 : decode cJ2_newBytesLength_0f7a4 26 = .ok (.invokespecial 25, 3) := do_b7 DJ2_newBytesLength_0f7a4_26
theorem dJ2_newBytesLength_0f7a4_29 : decode cJ2_newBytesLength_0f7a4 29 = .ok (.ldc 26, 2) := by decide +kernel
theorem dJ2_newBytesLength_0f7a4_31 : decode cJ2_newBytesLength_0f7a4 31 = .ok (.invokevirtual 28, 3) := do_b6 DJ2_newBytesLength_0f7a4_31
theorem dJ2_newBytesLength_0f7a4_34 : decode cJ2_newBytesLength_0f7a4 34 = .ok (.iload_n 0, 1) := do_1a DJ2_newBytesLength_0f7a4_34
theorem dJ2_newBytesLength_0f7a4_35 : decode cJ2_newBytesLength_0f7a4 35 = .ok (.invokevirtual 32, 3) := do_b6 DJ2_newBytesLength_0f7a4_35
theorem dJ2_newBytesLength_0f7a4_38 : decode cJ2_newBytesLength_0f7a4 38 = .ok (.ldc 35, 2) := by decide +kernel
theorem dJ2_newBytesLength_0f7a4_40 : decode cJ2_newBytesLength_0f7a4 40 = .ok (.invokevirtual 28, 3) := do_b6 DJ2_newBytesLength_0f7a4_40
theorem dJ2_newBytesLength_0f7a4_43 : decode cJ2_newBytesLength_0f7a4 43 = .ok (.ldc 20, 2) := by decide +kernel
theorem dJ2_newBytesLength_0f7a4_45 : decode cJ2_newBytesLength_0f7a4 45 = .ok (.invokevirtual 32, 3) := do_b6 DJ2_newBytesLength_0f7a4_45
theorem dJ2_newBytesLength_0f7a4_48 : decode cJ2_newBytesLength_0f7a4 48 = .ok (.invokevirtual 37, 3) := do_b6 DJ2_newBytesLength_0f7a4_48
theorem dJ2_newBytesLength_0f7a4_51 : decode cJ2_newBytesLength_0f7a4 51 = .ok (.invokespecial 41, 3) := do_b7 DJ2_newBytesLength_0f7a4_51
theorem dJ2_newBytesLength_0f7a4_54 : decode cJ2_newBytesLength_0f7a4 54 = .ok (.athrow, 1) := do_bf DJ2_newBytesLength_0f7a4_54
theorem dJ2_newBytesLength_0f7a4_55 : decode cJ2_newBytesLength_0f7a4 55 = .ok (.iload_n 0, 1) := do_1a DJ2_newBytesLength_0f7a4_55
theorem dJ2_newBytesLength_0f7a4_56 : decode cJ2_newBytesLength_0f7a4 56 = .ok (.iconst 1, 1) := do_04 DJ2_newBytesLength_0f7a4_56
theorem dJ2_newBytesLength_0f7a4_57 : decode cJ2_newBytesLength_0f7a4 57 = .ok (.ishl, 1) := do_78 DJ2_newBytesLength_0f7a4_57
theorem dJ2_newBytesLength_0f7a4_58 : decode cJ2_newBytesLength_0f7a4 58 = .ok (.ireturn, 1) := do_ac DJ2_newBytesLength_0f7a4_58
def TJ2_putChar_b72d1_54 : List UInt8 := []
def TJ2_putChar_b72d1_53 : List UInt8 := 177 :: TJ2_putChar_b72d1_54
def TJ2_putChar_b72d1_52 : List UInt8 := 84 :: TJ2_putChar_b72d1_53
def TJ2_putChar_b72d1_51 : List UInt8 := 145 :: TJ2_putChar_b72d1_52
def TJ2_putChar_b72d1_50 : List UInt8 := 122 :: TJ2_putChar_b72d1_51
def TJ2_putChar_b72d1_47 : List UInt8 := 178 :: 0 :: 63 :: TJ2_putChar_b72d1_50
def TJ2_putChar_b72d1_46 : List UInt8 := 28 :: TJ2_putChar_b72d1_47
def TJ2_putChar_b72d1_45 : List UInt8 := 27 :: TJ2_putChar_b72d1_46
def TJ2_putChar_b72d1_44 : List UInt8 := 42 :: TJ2_putChar_b72d1_45
def TJ2_putChar_b72d1_43 : List UInt8 := 84 :: TJ2_putChar_b72d1_44
def TJ2_putChar_b72d1_42 : List UInt8 := 145 :: TJ2_putChar_b72d1_43
def TJ2_putChar_b72d1_41 : List UInt8 := 122 :: TJ2_putChar_b72d1_42
def TJ2_putChar_b72d1_38 : List UInt8 := 178 :: 0 :: 59 :: TJ2_putChar_b72d1_41
def TJ2_putChar_b72d1_37 : List UInt8 := 28 :: TJ2_putChar_b72d1_38
def TJ2_putChar_b72d1_34 : List UInt8 := 132 :: 1 :: 1 :: TJ2_putChar_b72d1_37
def TJ2_putChar_b72d1_33 : List UInt8 := 27 :: TJ2_putChar_b72d1_34
def TJ2_putChar_b72d1_32 : List UInt8 := 42 :: TJ2_putChar_b72d1_33
def TJ2_putChar_b72d1_31 : List UInt8 := 60 :: TJ2_putChar_b72d1_32
def TJ2_putChar_b72d1_30 : List UInt8 := 120 :: TJ2_putChar_b72d1_31
def TJ2_putChar_b72d1_29 : List UInt8 := 4 :: TJ2_putChar_b72d1_30
def TJ2_putChar_b72d1_28 : List UInt8 := 27 :: TJ2_putChar_b72d1_29
def TJ2_putChar_b72d1_27 : List UInt8 := 191 :: TJ2_putChar_b72d1_28
def TJ2_putChar_b72d1_24 : List UInt8 := 183 :: 0 :: 56 :: TJ2_putChar_b72d1_27
def TJ2_putChar_b72d1_22 : List UInt8 := 18 :: 54 :: TJ2_putChar_b72d1_24
def TJ2_putChar_b72d1_21 : List UInt8 := 89 :: TJ2_putChar_b72d1_22
def TJ2_putChar_b72d1_18 : List UInt8 := 187 :: 0 :: 52 :: TJ2_putChar_b72d1_21
def TJ2_putChar_b72d1_15 : List UInt8 := 161 :: 0 :: 13 :: TJ2_putChar_b72d1_18
def TJ2_putChar_b72d1_12 : List UInt8 := 184 :: 0 :: 48 :: TJ2_putChar_b72d1_15
def TJ2_putChar_b72d1_11 : List UInt8 := 42 :: TJ2_putChar_b72d1_12
def TJ2_putChar_b72d1_10 : List UInt8 := 27 :: TJ2_putChar_b72d1_11
def TJ2_putChar_b72d1_7 : List UInt8 := 155 :: 0 :: 11 :: TJ2_putChar_b72d1_10
def TJ2_putChar_b72d1_6 : List UInt8 := 27 :: TJ2_putChar_b72d1_7
def TJ2_putChar_b72d1_3 : List UInt8 := 154 :: 0 :: 25 :: TJ2_putChar_b72d1_6
def TJ2_putChar_b72d1_0 : List UInt8 := 178 :: 0 :: 44 :: TJ2_putChar_b72d1_3
theorem DJ2_putChar_b72d1_0 : cJ2_putChar_b72d1.data.toList.drop 0 = TJ2_putChar_b72d1_0 := by decide +kernel
theorem DJ2_putChar_b72d1_3 : cJ2_putChar_b72d1.data.toList.drop 3 = TJ2_putChar_b72d1_3 := dr3 DJ2_putChar_b72d1_0
theorem DJ2_putChar_b72d1_6 : cJ2_putChar_b72d1.data.toList.drop 6 = TJ2_putChar_b72d1_6 := dr3 DJ2_putChar_b72d1_3
theorem DJ2_putChar_b72d1_7 : cJ2_putChar_b72d1.data.toList.drop 7 = TJ2_putChar_b72d1_7 := dr1 DJ2_putChar_b72d1_6
theorem DJ2_putChar_b72d1_10 : cJ2_putChar_b72d1.data.toList.drop 10 = TJ2_putChar_b72d1_10 := dr3 DJ2_putChar_b72d1_7
theorem DJ2_putChar_b72d1_11 : cJ2_putChar_b72d1.data.toList.drop 11 = TJ2_putChar_b72d1_11 := dr1 DJ2_putChar_b72d1_10
theorem DJ2_putChar_b72d1_12 : cJ2_putChar_b72d1.data.toList.drop 12 = TJ2_putChar_b72d1_12 := dr1 DJ2_putChar_b72d1_11
theorem DJ2_putChar_b72d1_15 : cJ2_putChar_b72d1.data.toList.drop 15 = TJ2_putChar_b72d1_15 := dr3 DJ2_putChar_b72d1_12
theorem DJ2_putChar_b72d1_18 : cJ2_putChar_b72d1.data.toList.drop 18 = TJ2_putChar_b72d1_18 := dr3 DJ2_putChar_b72d1_15
theorem DJ2_putChar_b72d1_21 : cJ2_putChar_b72d1.data.toList.drop 21 = TJ2_putChar_b72d1_21 := dr3 DJ2_putChar_b72d1_18
theorem DJ2_putChar_b72d1_22 : cJ2_putChar_b72d1.data.toList.drop 22 = TJ2_putChar_b72d1_22 := dr1 DJ2_putChar_b72d1_21
theorem DJ2_putChar_b72d1_24 : cJ2_putChar_b72d1.data.toList.drop 24 = TJ2_putChar_b72d1_24 := dr2 DJ2_putChar_b72d1_22
theorem DJ2_putChar_b72d1_27 : cJ2_putChar_b72d1.data.toList.drop 27 = TJ2_putChar_b72d1_27 := dr3 DJ2_putChar_b72d1_24
theorem DJ2_putChar_b72d1_28 : cJ2_putChar_b72d1.data.toList.drop 28 = TJ2_putChar_b72d1_28 := dr1 DJ2_putChar_b72d1_27
theorem DJ2_putChar_b72d1_29 : cJ2_putChar_b72d1.data.toList.drop 29 = TJ2_putChar_b72d1_29 := dr1 DJ2_putChar_b72d1_28
theorem DJ2_putChar_b72d1_30 : cJ2_putChar_b72d1.data.toList.drop 30 = TJ2_putChar_b72d1_30 := dr1 DJ2_putChar_b72d1_29
theorem DJ2_putChar_b72d1_31 : cJ2_putChar_b72d1.data.toList.drop 31 = TJ2_putChar_b72d1_31 := dr1 DJ2_putChar_b72d1_30
theorem DJ2_putChar_b72d1_32 : cJ2_putChar_b72d1.data.toList.drop 32 = TJ2_putChar_b72d1_32 := dr1 DJ2_putChar_b72d1_31
theorem DJ2_putChar_b72d1_33 : cJ2_putChar_b72d1.data.toList.drop 33 = TJ2_putChar_b72d1_33 := dr1 DJ2_putChar_b72d1_32
theorem DJ2_putChar_b72d1_34 : cJ2_putChar_b72d1.data.toList.drop 34 = TJ2_putChar_b72d1_34 := dr1 DJ2_putChar_b72d1_33
theorem DJ2_putChar_b72d1_37 : cJ2_putChar_b72d1.data.toList.drop 37 = TJ2_putChar_b72d1_37 := dr3 DJ2_putChar_b72d1_34
theorem DJ2_putChar_b72d1_38 : cJ2_putChar_b72d1.data.toList.drop 38 = TJ2_putChar_b72d1_38 := dr1 DJ2_putChar_b72d1_37
theorem DJ2_putChar_b72d1_41 : cJ2_putChar_b72d1.data.toList.drop 41 = TJ2_putChar_b72d1_41 := dr3 DJ2_putChar_b72d1_38
theorem DJ2_putChar_b72d1_42 : cJ2_putChar_b72d1.data.toList.drop 42 = TJ2_putChar_b72d1_42 := dr1 DJ2_putChar_b72d1_41
theorem DJ2_putChar_b72d1_43 : cJ2_putChar_b72d1.data.toList.drop 43 = TJ2_putChar_b72d1_43 := dr1 DJ2_putChar_b72d1_42
theorem DJ2_putChar_b72d1_44 : cJ2_putChar_b72d1.data.toList.drop 44 = TJ2_putChar_b72d1_44 := dr1 DJ2_putChar_b72d1_43
theorem DJ2_putChar_b72d1_45 : cJ2_putChar_b72d1.data.toList.drop 45 = TJ2_putChar_b72d1_45 := dr1 DJ2_putChar_b72d1_44
theorem DJ2_putChar_b72d1_46 : cJ2_putChar_b72d1.data.toList.drop 46 = TJ2_putChar_b72d1_46 := dr1 DJ2_putChar_b72d1_45
theorem DJ2_putChar_b72d1_47 : cJ2_putChar_b72d1.data.toList.drop 47 = TJ2_putChar_b72d1_47 := dr1 DJ2_putChar_b72d1_46
theorem DJ2_putChar_b72d1_50 : cJ2_putChar_b72d1.data.toList.drop 50 = TJ2_putChar_b72d1_50 := dr3 DJ2_putChar_b72d1_47
theorem DJ2_putChar_b72d1_51 : cJ2_putChar_b72d1.data.toList.drop 51 = TJ2_putChar_b72d1_51 := dr1 DJ2_putChar_b72d1_50
theorem DJ2_putChar_b72d1_52 : cJ2_putChar_b72d1.data.toList.drop 52 = TJ2_putChar_b72d1_52 := dr1 DJ2_putChar_b72d1_51
theorem DJ2_putChar_b72d1_53 : cJ2_putChar_b72d1.data.toList.drop 53 = TJ2_putChar_b72d1_53 := dr1 DJ2_putChar_b72d1_52
theorem dJ2_putChar_b72d1_0 : decode cJ2_putChar_b72d1 0 = .ok (.getstatic 44, 3) := do_b2 DJ2_putChar_b72d1_0
theorem dJ2_putChar_b72d1_3 : decode cJ2_putChar_b72d1 3 = .ok (.ifCond .ne 25, 3) := do_9a DJ2_putChar_b72d1_3 (by decide +kernel)
theorem dJ2_putChar_b72d1_6 : decode cJ2_putChar_b72d1 6 = .ok (.iload_n 1, 1) := do_1b DJ2_putChar_b72d1_6
theorem dJ2_putChar_b72d1_7 : decode cJ2_putChar_b72d1 7 = .ok (.ifCond .lt 11, 3) := do_9b DJ2_putChar_b72d1_7 (by decide +kernel)
theorem dJ2_putChar_b72d1_10 : decode cJ2_putChar_b72d1 10 = .ok (.iload_n 1, 1) := do_1b DJ2_putChar_b72d1_10
theorem dJ2_putChar_b72d1_11 : decode cJ2_putChar_b72d1 11 = .ok (.aload_n 0, 1) := do_2a DJ2_putChar_b72d1_11
theorem dJ2_putChar_b72d1_12 : decode cJ2_putChar_b72d1 12 = .ok (.invokestatic 48, 3) := do_b8 DJ2_putChar_b72d1_12
theorem dJ2_putChar_b72d1_15 : decode cJ2_putChar_b72d1 15 = .ok (.if_icmp .lt 13, 3) := do_a1 DJ2_putChar_b72d1_15 (by decide +kernel)
theorem dJ2_putChar_b72d1_18 : decode cJ2_putChar_b72d1 18 = .ok (.new 52, 3) := do_bb DJ2_putChar_b72d1_18
theorem dJ2_putChar_b72d1_21 : decode cJ2_putChar_b72d1 21 = .ok (.dup, 1) := do_59 DJ2_putChar_b72d1_21
theorem dJ2_putChar_b72d1_22 : decode cJ2_putChar_b72d1 22 = .ok (.ldc 54, 2) := by decide +kernel
theorem dJ2_putChar_b72d1_24 : decode cJ2_putChar_b72d1 24 = .ok (.invokespecial 56, 3) := do_b7 DJ2_putChar_b72d1_24
theorem dJ2_putChar_b72d1_27 : decode cJ2_putChar_b72d1 27 = .ok (.athrow, 1) := do_bf DJ2_putChar_b72d1_27
theorem dJ2_putChar_b72d1_28 : decode cJ2_putChar_b72d1 28 = .ok (.iload_n 1, 1) := do_1b DJ2_putChar_b72d1_28
theorem dJ2_putChar_b72d1_29 : decode cJ2_putChar_b72d1 29 = .ok (.iconst 1, 1) := do_04 DJ2_putChar_b72d1_29
theorem dJ2_putChar_b72d1_30 : decode cJ2_putChar_b72d1 30 = .ok (.ishl, 1) := do_78 DJ2_putChar_b72d1_30
theorem dJ2_putChar_b72d1_31 : decode cJ2_putChar_b72d1 31 = .ok (.istore_n 1, 1) := do_3c DJ2_putChar_b72d1_31
theorem dJ2_putChar_b72d1_32 : decode cJ2_putChar_b72d1 32 = .ok (.aload_n 0, 1) := do_2a DJ2_putChar_b72d1_32
theorem dJ2_putChar_b72d1_33 : decode cJ2_putChar_b72d1 33 = .ok (.iload_n 1, 1) := do_1b DJ2_putChar_b72d1_33
theorem dJ2_putChar_b72d1_34 : decode cJ2_putChar_b72d1 34 = .ok (.iinc 1 1, 3) := do_84 DJ2_putChar_b72d1_34
theorem dJ2_putChar_b72d1_37 : decode cJ2_putChar_b72d1 37 = .ok (.iload_n 2, 1) := do_1c DJ2_putChar_b72d1_37
theorem dJ2_putChar_b72d1_38 : decode cJ2_putChar_b72d1 38 = .ok (.getstatic 59, 3) := do_b2 DJ2_putChar_b72d1_38
theorem dJ2_putChar_b72d1_41 : decode cJ2_putChar_b72d1 41 = .ok (.ishr, 1) := do_7a DJ2_putChar_b72d1_41
theorem dJ2_putChar_b72d1_42 : decode cJ2_putChar_b72d1 42 = .ok (.i2b, 1) := do_91 DJ2_putChar_b72d1_42
theorem dJ2_putChar_b72d1_43 : decode cJ2_putChar_b72d1 43 = .ok (.bastore, 1) := do_54 DJ2_putChar_b72d1_43
theorem dJ2_putChar_b72d1_44 : decode cJ2_putChar_b72d1 44 = .ok (.aload_n 0, 1) := do_2a DJ2_putChar_b72d1_44
theorem dJ2_putChar_b72d1_45 : decode cJ2_putChar_b72d1 45 = .ok (.iload_n 1, 1) := do_1b DJ2_putChar_b72d1_45
theorem dJ2_putChar_b72d1_46 : decode cJ2_putChar_b72d1 46 = .ok (.iload_n 2, 1) := do_1c DJ2_putChar_b72d1_46
theorem dJ2_putChar_b72d1_47 : decode cJ2_putChar_b72d1 47 = .ok (.getstatic 63, 3) := do_b2 DJ2_putChar_b72d1_47
theorem dJ2_putChar_b72d1_50 : decode cJ2_putChar_b72d1 50 = .ok (.ishr, 1) := do_7a DJ2_putChar_b72d1_50
theorem dJ2_putChar_b72d1_51 : decode cJ2_putChar_b72d1 51 = .ok (.i2b, 1) := do_91 DJ2_putChar_b72d1_51
theorem dJ2_putChar_b72d1_52 : decode cJ2_putChar_b72d1 52 = .ok (.bastore, 1) := do_54 DJ2_putChar_b72d1_52
theorem dJ2_putChar_b72d1_53 : decode cJ2_putChar_b72d1 53 = .ok (.return_, 1) := do_b1 DJ2_putChar_b72d1_53
def TJ2_getChar_3b067_60 : List UInt8 := []
def TJ2_getChar_3b067_59 : List UInt8 := 172 :: TJ2_getChar_3b067_60
def TJ2_getChar_3b067_58 : List UInt8 := 146 :: TJ2_getChar_3b067_59
def TJ2_getChar_3b067_57 : List UInt8 := 128 :: TJ2_getChar_3b067_58
def TJ2_getChar_3b067_56 : List UInt8 := 120 :: TJ2_getChar_3b067_57
def TJ2_getChar_3b067_53 : List UInt8 := 178 :: 0 :: 63 :: TJ2_getChar_3b067_56
def TJ2_getChar_3b067_52 : List UInt8 := 126 :: TJ2_getChar_3b067_53
def TJ2_getChar_3b067_49 : List UInt8 := 17 :: 0 :: 255 :: TJ2_getChar_3b067_52
def TJ2_getChar_3b067_48 : List UInt8 := 51 :: TJ2_getChar_3b067_49
def TJ2_getChar_3b067_47 : List UInt8 := 27 :: TJ2_getChar_3b067_48
def TJ2_getChar_3b067_46 : List UInt8 := 42 :: TJ2_getChar_3b067_47
def TJ2_getChar_3b067_45 : List UInt8 := 120 :: TJ2_getChar_3b067_46
def TJ2_getChar_3b067_42 : List UInt8 := 178 :: 0 :: 59 :: TJ2_getChar_3b067_45
def TJ2_getChar_3b067_41 : List UInt8 := 126 :: TJ2_getChar_3b067_42
def TJ2_getChar_3b067_38 : List UInt8 := 17 :: 0 :: 255 :: TJ2_getChar_3b067_41
def TJ2_getChar_3b067_37 : List UInt8 := 51 :: TJ2_getChar_3b067_38
def TJ2_getChar_3b067_34 : List UInt8 := 132 :: 1 :: 1 :: TJ2_getChar_3b067_37
def TJ2_getChar_3b067_33 : List UInt8 := 27 :: TJ2_getChar_3b067_34
def TJ2_getChar_3b067_32 : List UInt8 := 42 :: TJ2_getChar_3b067_33
def TJ2_getChar_3b067_31 : List UInt8 := 60 :: TJ2_getChar_3b067_32
def TJ2_getChar_3b067_30 : List UInt8 := 120 :: TJ2_getChar_3b067_31
def TJ2_getChar_3b067_29 : List UInt8 := 4 :: TJ2_getChar_3b067_30
def TJ2_getChar_3b067_28 : List UInt8 := 27 :: TJ2_getChar_3b067_29
def TJ2_getChar_3b067_27 : List UInt8 := 191 :: TJ2_getChar_3b067_28
def TJ2_getChar_3b067_24 : List UInt8 := 183 :: 0 :: 56 :: TJ2_getChar_3b067_27
def TJ2_getChar_3b067_22 : List UInt8 := 18 :: 54 :: TJ2_getChar_3b067_24
def TJ2_getChar_3b067_21 : List UInt8 := 89 :: TJ2_getChar_3b067_22
def TJ2_getChar_3b067_18 : List UInt8 := 187 :: 0 :: 52 :: TJ2_getChar_3b067_21
def TJ2_getChar_3b067_15 : List UInt8 := 161 :: 0 :: 13 :: TJ2_getChar_3b067_18
def TJ2_getChar_3b067_12 : List UInt8 := 184 :: 0 :: 48 :: TJ2_getChar_3b067_15
def TJ2_getChar_3b067_11 : List UInt8 := 42 :: TJ2_getChar_3b067_12
def TJ2_getChar_3b067_10 : List UInt8 := 27 :: TJ2_getChar_3b067_11
def TJ2_getChar_3b067_7 : List UInt8 := 155 :: 0 :: 11 :: TJ2_getChar_3b067_10
def TJ2_getChar_3b067_6 : List UInt8 := 27 :: TJ2_getChar_3b067_7
def TJ2_getChar_3b067_3 : List UInt8 := 154 :: 0 :: 25 :: TJ2_getChar_3b067_6
def TJ2_getChar_3b067_0 : List UInt8 := 178 :: 0 :: 44 :: TJ2_getChar_3b067_3
theorem DJ2_getChar_3b067_0 : cJ2_getChar_3b067.data.toList.drop 0 = TJ2_getChar_3b067_0 := by decide +kernel
theorem DJ2_getChar_3b067_3 : cJ2_getChar_3b067.data.toList.drop 3 = TJ2_getChar_3b067_3 := dr3 DJ2_getChar_3b067_0
theorem DJ2_getChar_3b067_6 : cJ2_getChar_3b067.data.toList.drop 6 = TJ2_getChar_3b067_6 := dr3 DJ2_getChar_3b067_3
theorem DJ2_getChar_3b067_7 : cJ2_getChar_3b067.data.toList.drop 7 = TJ2_getChar_3b067_7 := dr1 DJ2_getChar_3b067_6
theorem DJ2_getChar_3b067_10 : cJ2_getChar_3b067.data.toList.drop 10 = TJ2_getChar_3b067_10 := dr3 DJ2_getChar_3b067_7
theorem DJ2_getChar_3b067_11 : cJ2_getChar_3b067.data.toList.drop 11 = TJ2_getChar_3b067_11 := dr1 DJ2_getChar_3b067_10
theorem DJ2_getChar_3b067_12 : cJ2_getChar_3b067.data.toList.drop 12 = TJ2_getChar_3b067_12 := dr1 DJ2_getChar_3b067_11
theorem DJ2_getChar_3b067_15 : cJ2_getChar_3b067.data.toList.drop 15 = TJ2_getChar_3b067_15 := dr3 DJ2_getChar_3b067_12
theorem DJ2_getChar_3b067_18 : cJ2_getChar_3b067.data.toList.drop 18 = TJ2_getChar_3b067_18 := dr3 DJ2_getChar_3b067_15
theorem DJ2_getChar_3b067_21 : cJ2_getChar_3b067.data.toList.drop 21 = TJ2_getChar_3b067_21 := dr3 DJ2_getChar_3b067_18
theorem DJ2_getChar_3b067_22 : cJ2_getChar_3b067.data.toList.drop 22 = TJ2_getChar_3b067_22 := dr1 DJ2_getChar_3b067_21
theorem DJ2_getChar_3b067_24 : cJ2_getChar_3b067.data.toList.drop 24 = TJ2_getChar_3b067_24 := dr2 DJ2_getChar_3b067_22
theorem DJ2_getChar_3b067_27 : cJ2_getChar_3b067.data.toList.drop 27 = TJ2_getChar_3b067_27 := dr3 DJ2_getChar_3b067_24
theorem DJ2_getChar_3b067_28 : cJ2_getChar_3b067.data.toList.drop 28 = TJ2_getChar_3b067_28 := dr1 DJ2_getChar_3b067_27
theorem DJ2_getChar_3b067_29 : cJ2_getChar_3b067.data.toList.drop 29 = TJ2_getChar_3b067_29 := dr1 DJ2_getChar_3b067_28
theorem DJ2_getChar_3b067_30 : cJ2_getChar_3b067.data.toList.drop 30 = TJ2_getChar_3b067_30 := dr1 DJ2_getChar_3b067_29
theorem DJ2_getChar_3b067_31 : cJ2_getChar_3b067.data.toList.drop 31 = TJ2_getChar_3b067_31 := dr1 DJ2_getChar_3b067_30
theorem DJ2_getChar_3b067_32 : cJ2_getChar_3b067.data.toList.drop 32 = TJ2_getChar_3b067_32 := dr1 DJ2_getChar_3b067_31
theorem DJ2_getChar_3b067_33 : cJ2_getChar_3b067.data.toList.drop 33 = TJ2_getChar_3b067_33 := dr1 DJ2_getChar_3b067_32
theorem DJ2_getChar_3b067_34 : cJ2_getChar_3b067.data.toList.drop 34 = TJ2_getChar_3b067_34 := dr1 DJ2_getChar_3b067_33
theorem DJ2_getChar_3b067_37 : cJ2_getChar_3b067.data.toList.drop 37 = TJ2_getChar_3b067_37 := dr3 DJ2_getChar_3b067_34
theorem DJ2_getChar_3b067_38 : cJ2_getChar_3b067.data.toList.drop 38 = TJ2_getChar_3b067_38 := dr1 DJ2_getChar_3b067_37
theorem DJ2_getChar_3b067_41 : cJ2_getChar_3b067.data.toList.drop 41 = TJ2_getChar_3b067_41 := dr3 DJ2_getChar_3b067_38
theorem DJ2_getChar_3b067_42 : cJ2_getChar_3b067.data.toList.drop 42 = TJ2_getChar_3b067_42 := dr1 DJ2_getChar_3b067_41
theorem DJ2_getChar_3b067_45 : cJ2_getChar_3b067.data.toList.drop 45 = TJ2_getChar_3b067_45 := dr3 DJ2_getChar_3b067_42
theorem DJ2_getChar_3b067_46 : cJ2_getChar_3b067.data.toList.drop 46 = TJ2_getChar_3b067_46 := dr1 DJ2_getChar_3b067_45
theorem DJ2_getChar_3b067_47 : cJ2_getChar_3b067.data.toList.drop 47 = TJ2_getChar_3b067_47 := dr1 DJ2_getChar_3b067_46
theorem DJ2_getChar_3b067_48 : cJ2_getChar_3b067.data.toList.drop 48 = TJ2_getChar_3b067_48 := dr1 DJ2_getChar_3b067_47
theorem DJ2_getChar_3b067_49 : cJ2_getChar_3b067.data.toList.drop 49 = TJ2_getChar_3b067_49 := dr1 DJ2_getChar_3b067_48
theorem DJ2_getChar_3b067_52 : cJ2_getChar_3b067.data.toList.drop 52 = TJ2_getChar_3b067_52 := dr3 DJ2_getChar_3b067_49
theorem DJ2_getChar_3b067_53 : cJ2_getChar_3b067.data.toList.drop 53 = TJ2_getChar_3b067_53 := dr1 DJ2_getChar_3b067_52
theorem DJ2_getChar_3b067_56 : cJ2_getChar_3b067.data.toList.drop 56 = TJ2_getChar_3b067_56 := dr3 DJ2_getChar_3b067_53
theorem DJ2_getChar_3b067_57 : cJ2_getChar_3b067.data.toList.drop 57 = TJ2_getChar_3b067_57 := dr1 DJ2_getChar_3b067_56
theorem DJ2_getChar_3b067_58 : cJ2_getChar_3b067.data.toList.drop 58 = TJ2_getChar_3b067_58 := dr1 DJ2_getChar_3b067_57
theorem DJ2_getChar_3b067_59 : cJ2_getChar_3b067.data.toList.drop 59 = TJ2_getChar_3b067_59 := dr1 DJ2_getChar_3b067_58
theorem dJ2_getChar_3b067_0 : decode cJ2_getChar_3b067 0 = .ok (.getstatic 44, 3) := do_b2 DJ2_getChar_3b067_0
theorem dJ2_getChar_3b067_3 : decode cJ2_getChar_3b067 3 = .ok (.ifCond .ne 25, 3) := do_9a DJ2_getChar_3b067_3 (by decide +kernel)
theorem dJ2_getChar_3b067_6 : decode cJ2_getChar_3b067 6 = .ok (.iload_n 1, 1) := do_1b DJ2_getChar_3b067_6
theorem dJ2_getChar_3b067_7 : decode cJ2_getChar_3b067 7 = .ok (.ifCond .lt 11, 3) := do_9b DJ2_getChar_3b067_7 (by decide +kernel)
theorem dJ2_getChar_3b067_10 : decode cJ2_getChar_3b067 10 = .ok (.iload_n 1, 1) := do_1b DJ2_getChar_3b067_10
theorem dJ2_getChar_3b067_11 : decode cJ2_getChar_3b067 11 = .ok (.aload_n 0, 1) := do_2a DJ2_getChar_3b067_11
theorem dJ2_getChar_3b067_12 : decode cJ2_getChar_3b067 12 = .ok (.invokestatic 48, 3) := do_b8 DJ2_getChar_3b067_12
theorem dJ2_getChar_3b067_15 : decode cJ2_getChar_3b067 15 = .ok (.if_icmp .lt 13, 3) := do_a1 DJ2_getChar_3b067_15 (by decide +kernel)
theorem dJ2_getChar_3b067_18 : decode cJ2_getChar_3b067 18 = .ok (.new 52, 3) := do_bb DJ2_getChar_3b067_18
theorem dJ2_getChar_3b067_21 : decode cJ2_getChar_3b067 21 = .ok (.dup, 1) := do_59 DJ2_getChar_3b067_21
theorem dJ2_getChar_3b067_22 : decode cJ2_getChar_3b067 22 = .ok (.ldc 54, 2) := by decide +kernel
theorem dJ2_getChar_3b067_24 : decode cJ2_getChar_3b067 24 = .ok (.invokespecial 56, 3) := do_b7 DJ2_getChar_3b067_24
theorem dJ2_getChar_3b067_27 : decode cJ2_getChar_3b067 27 = .ok (.athrow, 1) := do_bf DJ2_getChar_3b067_27
theorem dJ2_getChar_3b067_28 : decode cJ2_getChar_3b067 28 = .ok (.iload_n 1, 1) := do_1b DJ2_getChar_3b067_28
theorem dJ2_getChar_3b067_29 : decode cJ2_getChar_3b067 29 = .ok (.iconst 1, 1) := do_04 DJ2_getChar_3b067_29
theorem dJ2_getChar_3b067_30 : decode cJ2_getChar_3b067 30 = .ok (.ishl, 1) := do_78 DJ2_getChar_3b067_30
theorem dJ2_getChar_3b067_31 : decode cJ2_getChar_3b067 31 = .ok (.istore_n 1, 1) := do_3c DJ2_getChar_3b067_31
theorem dJ2_getChar_3b067_32 : decode cJ2_getChar_3b067 32 = .ok (.aload_n 0, 1) := do_2a DJ2_getChar_3b067_32
theorem dJ2_getChar_3b067_33 : decode cJ2_getChar_3b067 33 = .ok (.iload_n 1, 1) := do_1b DJ2_getChar_3b067_33
theorem dJ2_getChar_3b067_34 : decode cJ2_getChar_3b067 34 = .ok (.iinc 1 1, 3) := do_84 DJ2_getChar_3b067_34
theorem dJ2_getChar_3b067_37 : decode cJ2_getChar_3b067 37 = .ok (.baload, 1) := do_33 DJ2_getChar_3b067_37
theorem dJ2_getChar_3b067_38 : decode cJ2_getChar_3b067 38 = .ok (.sipush 255, 3) := do_11 DJ2_getChar_3b067_38 (by decide +kernel)
theorem dJ2_getChar_3b067_41 : decode cJ2_getChar_3b067 41 = .ok (.iand, 1) := do_7e DJ2_getChar_3b067_41
theorem dJ2_getChar_3b067_42 : decode cJ2_getChar_3b067 42 = .ok (.getstatic 59, 3) := do_b2 DJ2_getChar_3b067_42
theorem dJ2_getChar_3b067_45 : decode cJ2_getChar_3b067 45 = .ok (.ishl, 1) := do_78 DJ2_getChar_3b067_45
theorem dJ2_getChar_3b067_46 : decode cJ2_getChar_3b067 46 = .ok (.aload_n 0, 1) := do_2a DJ2_getChar_3b067_46
theorem dJ2_getChar_3b067_47 : decode cJ2_getChar_3b067 47 = .ok (.iload_n 1, 1) := do_1b DJ2_getChar_3b067_47
theorem dJ2_getChar_3b067_48 : decode cJ2_getChar_3b067 48 = .ok (.baload, 1) := do_33 DJ2_getChar_3b067_48
theorem dJ2_getChar_3b067_49 : decode cJ2_getChar_3b067 49 = .ok (.sipush 255, 3) := do_11 DJ2_getChar_3b067_49 (by decide +kernel)
theorem dJ2_getChar_3b067_52 : decode cJ2_getChar_3b067 52 = .ok (.iand, 1) := do_7e DJ2_getChar_3b067_52
theorem dJ2_getChar_3b067_53 : decode cJ2_getChar_3b067 53 = .ok (.getstatic 63, 3) := do_b2 DJ2_getChar_3b067_53
theorem dJ2_getChar_3b067_56 : decode cJ2_getChar_3b067 56 = .ok (.ishl, 1) := do_78 DJ2_getChar_3b067_56
theorem dJ2_getChar_3b067_57 : decode cJ2_getChar_3b067 57 = .ok (.ior, 1) := do_80 DJ2_getChar_3b067_57
theorem dJ2_getChar_3b067_58 : decode cJ2_getChar_3b067 58 = .ok (.i2c, 1) := do_92 DJ2_getChar_3b067_58
theorem dJ2_getChar_3b067_59 : decode cJ2_getChar_3b067 59 = .ok (.ireturn, 1) := do_ac DJ2_getChar_3b067_59
def TJ2_length_9d52b_5 : List UInt8 := []
def TJ2_length_9d52b_4 : List UInt8 := 172 :: TJ2_length_9d52b_5
def TJ2_length_9d52b_3 : List UInt8 := 122 :: TJ2_length_9d52b_4
def TJ2_length_9d52b_2 : List UInt8 := 4 :: TJ2_length_9d52b_3
def TJ2_length_9d52b_1 : List UInt8 := 190 :: TJ2_length_9d52b_2
def TJ2_length_9d52b_0 : List UInt8 := 42 :: TJ2_length_9d52b_1
theorem DJ2_length_9d52b_0 : cJ2_length_9d52b.data.toList.drop 0 = TJ2_length_9d52b_0 := by decide +kernel
theorem DJ2_length_9d52b_1 : cJ2_length_9d52b.data.toList.drop 1 = TJ2_length_9d52b_1 := dr1 DJ2_length_9d52b_0
theorem DJ2_length_9d52b_2 : cJ2_length_9d52b.data.toList.drop 2 = TJ2_length_9d52b_2 := dr1 DJ2_length_9d52b_1
theorem DJ2_length_9d52b_3 : cJ2_length_9d52b.data.toList.drop 3 = TJ2_length_9d52b_3 := dr1 DJ2_length_9d52b_2
theorem DJ2_length_9d52b_4 : cJ2_length_9d52b.data.toList.drop 4 = TJ2_length_9d52b_4 := dr1 DJ2_length_9d52b_3
theorem dJ2_length_9d52b_0 : decode cJ2_length_9d52b 0 = .ok (.aload_n 0, 1) := do_2a DJ2_length_9d52b_0
theorem dJ2_length_9d52b_1 : decode cJ2_length_9d52b 1 = .ok (.arraylength, 1) := do_be DJ2_length_9d52b_1
theorem dJ2_length_9d52b_2 : decode cJ2_length_9d52b 2 = .ok (.iconst 1, 1) := do_04 DJ2_length_9d52b_2
theorem dJ2_length_9d52b_3 : decode cJ2_length_9d52b 3 = .ok (.ishr, 1) := do_7a DJ2_length_9d52b_3
theorem dJ2_length_9d52b_4 : decode cJ2_length_9d52b 4 = .ok (.ireturn, 1) := do_ac DJ2_length_9d52b_4
def TJ2_coderFromArrayLen_85cad_9 : List UInt8 := []
def TJ2_coderFromArrayLen_85cad_8 : List UInt8 := 172 :: TJ2_coderFromArrayLen_85cad_9
def TJ2_coderFromArrayLen_85cad_7 : List UInt8 := 145 :: TJ2_coderFromArrayLen_85cad_8
def TJ2_coderFromArrayLen_85cad_6 : List UInt8 := 124 :: TJ2_coderFromArrayLen_85cad_7
def TJ2_coderFromArrayLen_85cad_4 : List UInt8 := 16 :: 31 :: TJ2_coderFromArrayLen_85cad_6
def TJ2_coderFromArrayLen_85cad_3 : List UInt8 := 100 :: TJ2_coderFromArrayLen_85cad_4
def TJ2_coderFromArrayLen_85cad_2 : List UInt8 := 190 :: TJ2_coderFromArrayLen_85cad_3
def TJ2_coderFromArrayLen_85cad_1 : List UInt8 := 42 :: TJ2_coderFromArrayLen_85cad_2
def TJ2_coderFromArrayLen_85cad_0 : List UInt8 := 27 :: TJ2_coderFromArrayLen_85cad_1
theorem DJ2_coderFromArrayLen_85cad_0 : cJ2_coderFromArrayLen_85cad.data.toList.drop 0 = TJ2_coderFromArrayLen_85cad_0 := by decide +kernel
theorem DJ2_coderFromArrayLen_85cad_1 : cJ2_coderFromArrayLen_85cad.data.toList.drop 1 = TJ2_coderFromArrayLen_85cad_1 := dr1 DJ2_coderFromArrayLen_85cad_0
theorem DJ2_coderFromArrayLen_85cad_2 : cJ2_coderFromArrayLen_85cad.data.toList.drop 2 = TJ2_coderFromArrayLen_85cad_2 := dr1 DJ2_coderFromArrayLen_85cad_1
theorem DJ2_coderFromArrayLen_85cad_3 : cJ2_coderFromArrayLen_85cad.data.toList.drop 3 = TJ2_coderFromArrayLen_85cad_3 := dr1 DJ2_coderFromArrayLen_85cad_2
theorem DJ2_coderFromArrayLen_85cad_4 : cJ2_coderFromArrayLen_85cad.data.toList.drop 4 = TJ2_coderFromArrayLen_85cad_4 := dr1 DJ2_coderFromArrayLen_85cad_3
theorem DJ2_coderFromArrayLen_85cad_6 : cJ2_coderFromArrayLen_85cad.data.toList.drop 6 = TJ2_coderFromArrayLen_85cad_6 := dr2 DJ2_coderFromArrayLen_85cad_4
theorem DJ2_coderFromArrayLen_85cad_7 : cJ2_coderFromArrayLen_85cad.data.toList.drop 7 = TJ2_coderFromArrayLen_85cad_7 := dr1 DJ2_coderFromArrayLen_85cad_6
theorem DJ2_coderFromArrayLen_85cad_8 : cJ2_coderFromArrayLen_85cad.data.toList.drop 8 = TJ2_coderFromArrayLen_85cad_8 := dr1 DJ2_coderFromArrayLen_85cad_7
theorem dJ2_coderFromArrayLen_85cad_0 : decode cJ2_coderFromArrayLen_85cad 0 = .ok (.iload_n 1, 1) := do_1b DJ2_coderFromArrayLen_85cad_0
theorem dJ2_coderFromArrayLen_85cad_1 : decode cJ2_coderFromArrayLen_85cad 1 = .ok (.aload_n 0, 1) := do_2a DJ2_coderFromArrayLen_85cad_1
theorem dJ2_coderFromArrayLen_85cad_2 : decode cJ2_coderFromArrayLen_85cad 2 = .ok (.arraylength, 1) := do_be DJ2_coderFromArrayLen_85cad_2
theorem dJ2_coderFromArrayLen_85cad_3 : decode cJ2_coderFromArrayLen_85cad 3 = .ok (.isub, 1) := do_64 DJ2_coderFromArrayLen_85cad_3
theorem dJ2_coderFromArrayLen_85cad_4 : decode cJ2_coderFromArrayLen_85cad 4 = .ok (.bipush 31, 2) := do_10 DJ2_coderFromArrayLen_85cad_4 (by decide +kernel)
theorem dJ2_coderFromArrayLen_85cad_6 : decode cJ2_coderFromArrayLen_85cad 6 = .ok (.iushr, 1) := do_7c DJ2_coderFromArrayLen_85cad_6
theorem dJ2_coderFromArrayLen_85cad_7 : decode cJ2_coderFromArrayLen_85cad 7 = .ok (.i2b, 1) := do_91 DJ2_coderFromArrayLen_85cad_7
theorem dJ2_coderFromArrayLen_85cad_8 : decode cJ2_coderFromArrayLen_85cad 8 = .ok (.ireturn, 1) := do_ac DJ2_coderFromArrayLen_85cad_8
def TJ2_compress_39247_66 : List UInt8 := []
def TJ2_compress_39247_65 : List UInt8 := 176 :: TJ2_compress_39247_66
def TJ2_compress_39247_64 : List UInt8 := 45 :: TJ2_compress_39247_65
def TJ2_compress_39247_63 : List UInt8 := 176 :: TJ2_compress_39247_64
def TJ2_compress_39247_61 : List UInt8 := 25 :: 5 :: TJ2_compress_39247_63
def TJ2_compress_39247_58 : List UInt8 := 159 :: 0 :: 6 :: TJ2_compress_39247_61
def TJ2_compress_39247_57 : List UInt8 := 28 :: TJ2_compress_39247_58
def TJ2_compress_39247_54 : List UInt8 := 184 :: 0 :: 123 :: TJ2_compress_39247_57
def TJ2_compress_39247_53 : List UInt8 := 28 :: TJ2_compress_39247_54
def TJ2_compress_39247_52 : List UInt8 := 3 :: TJ2_compress_39247_53
def TJ2_compress_39247_51 : List UInt8 := 45 :: TJ2_compress_39247_52
def TJ2_compress_39247_50 : List UInt8 := 3 :: TJ2_compress_39247_51
def TJ2_compress_39247_48 : List UInt8 := 25 :: 5 :: TJ2_compress_39247_50
def TJ2_compress_39247_45 : List UInt8 := 163 :: 0 :: 16 :: TJ2_compress_39247_48
def TJ2_compress_39247_42 : List UInt8 := 17 :: 0 :: 255 :: TJ2_compress_39247_45
def TJ2_compress_39247_39 : List UInt8 := 184 :: 0 :: 71 :: TJ2_compress_39247_42
def TJ2_compress_39247_37 : List UInt8 := 21 :: 4 :: TJ2_compress_39247_39
def TJ2_compress_39247_35 : List UInt8 := 25 :: 5 :: TJ2_compress_39247_37
def TJ2_compress_39247_33 : List UInt8 := 58 :: 5 :: TJ2_compress_39247_35
def TJ2_compress_39247_30 : List UInt8 := 184 :: 0 :: 126 :: TJ2_compress_39247_33
def TJ2_compress_39247_27 : List UInt8 := 184 :: 0 :: 11 :: TJ2_compress_39247_30
def TJ2_compress_39247_26 : List UInt8 := 96 :: TJ2_compress_39247_27
def TJ2_compress_39247_25 : List UInt8 := 28 :: TJ2_compress_39247_26
def TJ2_compress_39247_24 : List UInt8 := 27 :: TJ2_compress_39247_25
def TJ2_compress_39247_23 : List UInt8 := 120 :: TJ2_compress_39247_24
def TJ2_compress_39247_22 : List UInt8 := 4 :: TJ2_compress_39247_23
def TJ2_compress_39247_21 : List UInt8 := 27 :: TJ2_compress_39247_22
def TJ2_compress_39247_20 : List UInt8 := 42 :: TJ2_compress_39247_21
def TJ2_compress_39247_17 : List UInt8 := 159 :: 0 :: 47 :: TJ2_compress_39247_20
def TJ2_compress_39247_16 : List UInt8 := 28 :: TJ2_compress_39247_17
def TJ2_compress_39247_14 : List UInt8 := 21 :: 4 :: TJ2_compress_39247_16
def TJ2_compress_39247_12 : List UInt8 := 54 :: 4 :: TJ2_compress_39247_14
def TJ2_compress_39247_9 : List UInt8 := 184 :: 0 :: 123 :: TJ2_compress_39247_12
def TJ2_compress_39247_8 : List UInt8 := 28 :: TJ2_compress_39247_9
def TJ2_compress_39247_7 : List UInt8 := 3 :: TJ2_compress_39247_8
def TJ2_compress_39247_6 : List UInt8 := 45 :: TJ2_compress_39247_7
def TJ2_compress_39247_5 : List UInt8 := 27 :: TJ2_compress_39247_6
def TJ2_compress_39247_4 : List UInt8 := 42 :: TJ2_compress_39247_5
def TJ2_compress_39247_3 : List UInt8 := 78 :: TJ2_compress_39247_4
def TJ2_compress_39247_1 : List UInt8 := 188 :: 8 :: TJ2_compress_39247_3
def TJ2_compress_39247_0 : List UInt8 := 28 :: TJ2_compress_39247_1
theorem DJ2_compress_39247_0 : cJ2_compress_39247.data.toList.drop 0 = TJ2_compress_39247_0 := by decide +kernel
theorem DJ2_compress_39247_1 : cJ2_compress_39247.data.toList.drop 1 = TJ2_compress_39247_1 := dr1 DJ2_compress_39247_0
theorem DJ2_compress_39247_3 : cJ2_compress_39247.data.toList.drop 3 = TJ2_compress_39247_3 := dr2 DJ2_compress_39247_1
theorem DJ2_compress_39247_4 : cJ2_compress_39247.data.toList.drop 4 = TJ2_compress_39247_4 := dr1 DJ2_compress_39247_3
theorem DJ2_compress_39247_5 : cJ2_compress_39247.data.toList.drop 5 = TJ2_compress_39247_5 := dr1 DJ2_compress_39247_4
theorem DJ2_compress_39247_6 : cJ2_compress_39247.data.toList.drop 6 = TJ2_compress_39247_6 := dr1 DJ2_compress_39247_5
theorem DJ2_compress_39247_7 : cJ2_compress_39247.data.toList.drop 7 = TJ2_compress_39247_7 := dr1 DJ2_compress_39247_6
theorem DJ2_compress_39247_8 : cJ2_compress_39247.data.toList.drop 8 = TJ2_compress_39247_8 := dr1 DJ2_compress_39247_7
theorem DJ2_compress_39247_9 : cJ2_compress_39247.data.toList.drop 9 = TJ2_compress_39247_9 := dr1 DJ2_compress_39247_8
theorem DJ2_compress_39247_12 : cJ2_compress_39247.data.toList.drop 12 = TJ2_compress_39247_12 := dr3 DJ2_compress_39247_9
theorem DJ2_compress_39247_14 : cJ2_compress_39247.data.toList.drop 14 = TJ2_compress_39247_14 := dr2 DJ2_compress_39247_12
theorem DJ2_compress_39247_16 : cJ2_compress_39247.data.toList.drop 16 = TJ2_compress_39247_16 := dr2 DJ2_compress_39247_14
theorem DJ2_compress_39247_17 : cJ2_compress_39247.data.toList.drop 17 = TJ2_compress_39247_17 := dr1 DJ2_compress_39247_16
theorem DJ2_compress_39247_20 : cJ2_compress_39247.data.toList.drop 20 = TJ2_compress_39247_20 := dr3 DJ2_compress_39247_17
theorem DJ2_compress_39247_21 : cJ2_compress_39247.data.toList.drop 21 = TJ2_compress_39247_21 := dr1 DJ2_compress_39247_20
theorem DJ2_compress_39247_22 : cJ2_compress_39247.data.toList.drop 22 = TJ2_compress_39247_22 := dr1 DJ2_compress_39247_21
theorem DJ2_compress_39247_23 : cJ2_compress_39247.data.toList.drop 23 = TJ2_compress_39247_23 := dr1 DJ2_compress_39247_22
theorem DJ2_compress_39247_24 : cJ2_compress_39247.data.toList.drop 24 = TJ2_compress_39247_24 := dr1 DJ2_compress_39247_23
theorem DJ2_compress_39247_25 : cJ2_compress_39247.data.toList.drop 25 = TJ2_compress_39247_25 := dr1 DJ2_compress_39247_24
theorem DJ2_compress_39247_26 : cJ2_compress_39247.data.toList.drop 26 = TJ2_compress_39247_26 := dr1 DJ2_compress_39247_25
theorem DJ2_compress_39247_27 : cJ2_compress_39247.data.toList.drop 27 = TJ2_compress_39247_27 := dr1 DJ2_compress_39247_26
theorem DJ2_compress_39247_30 : cJ2_compress_39247.data.toList.drop 30 = TJ2_compress_39247_30 := dr3 DJ2_compress_39247_27
theorem DJ2_compress_39247_33 : cJ2_compress_39247.data.toList.drop 33 = TJ2_compress_39247_33 := dr3 DJ2_compress_39247_30
theorem DJ2_compress_39247_35 : cJ2_compress_39247.data.toList.drop 35 = TJ2_compress_39247_35 := dr2 DJ2_compress_39247_33
theorem DJ2_compress_39247_37 : cJ2_compress_39247.data.toList.drop 37 = TJ2_compress_39247_37 := dr2 DJ2_compress_39247_35
theorem DJ2_compress_39247_39 : cJ2_compress_39247.data.toList.drop 39 = TJ2_compress_39247_39 := dr2 DJ2_compress_39247_37
theorem DJ2_compress_39247_42 : cJ2_compress_39247.data.toList.drop 42 = TJ2_compress_39247_42 := dr3 DJ2_compress_39247_39
theorem DJ2_compress_39247_45 : cJ2_compress_39247.data.toList.drop 45 = TJ2_compress_39247_45 := dr3 DJ2_compress_39247_42
theorem DJ2_compress_39247_48 : cJ2_compress_39247.data.toList.drop 48 = TJ2_compress_39247_48 := dr3 DJ2_compress_39247_45
theorem DJ2_compress_39247_50 : cJ2_compress_39247.data.toList.drop 50 = TJ2_compress_39247_50 := dr2 DJ2_compress_39247_48
theorem DJ2_compress_39247_51 : cJ2_compress_39247.data.toList.drop 51 = TJ2_compress_39247_51 := dr1 DJ2_compress_39247_50
theorem DJ2_compress_39247_52 : cJ2_compress_39247.data.toList.drop 52 = TJ2_compress_39247_52 := dr1 DJ2_compress_39247_51
theorem DJ2_compress_39247_53 : cJ2_compress_39247.data.toList.drop 53 = TJ2_compress_39247_53 := dr1 DJ2_compress_39247_52
theorem DJ2_compress_39247_54 : cJ2_compress_39247.data.toList.drop 54 = TJ2_compress_39247_54 := dr1 DJ2_compress_39247_53
theorem DJ2_compress_39247_57 : cJ2_compress_39247.data.toList.drop 57 = TJ2_compress_39247_57 := dr3 DJ2_compress_39247_54
theorem DJ2_compress_39247_58 : cJ2_compress_39247.data.toList.drop 58 = TJ2_compress_39247_58 := dr1 DJ2_compress_39247_57
theorem DJ2_compress_39247_61 : cJ2_compress_39247.data.toList.drop 61 = TJ2_compress_39247_61 := dr3 DJ2_compress_39247_58
theorem DJ2_compress_39247_63 : cJ2_compress_39247.data.toList.drop 63 = TJ2_compress_39247_63 := dr2 DJ2_compress_39247_61
theorem DJ2_compress_39247_64 : cJ2_compress_39247.data.toList.drop 64 = TJ2_compress_39247_64 := dr1 DJ2_compress_39247_63
theorem DJ2_compress_39247_65 : cJ2_compress_39247.data.toList.drop 65 = TJ2_compress_39247_65 := dr1 DJ2_compress_39247_64
theorem dJ2_compress_39247_0 : decode cJ2_compress_39247 0 = .ok (.iload_n 2, 1) := do_1c DJ2_compress_39247_0
theorem dJ2_compress_39247_1 : decode cJ2_compress_39247 1 = .ok (.newarray .byte, 2) := by decide +kernel
theorem dJ2_compress_39247_3 : decode cJ2_compress_39247 3 = .ok (.astore_n 3, 1) := do_4e DJ2_compress_39247_3
theorem dJ2_compress_39247_4 : decode cJ2_compress_39247 4 = .ok (.aload_n 0, 1) := do_2a DJ2_compress_39247_4
theorem dJ2_compress_39247_5 : decode cJ2_compress_39247 5 = .ok (.iload_n 1, 1) := do_1b DJ2_compress_39247_5
theorem dJ2_compress_39247_6 : decode cJ2_compress_39247 6 = .ok (.aload_n 3, 1) := do_2d DJ2_compress_39247_6
theorem dJ2_compress_39247_7 : decode cJ2_compress_39247 7 = .ok (.iconst 0, 1) := do_03 DJ2_compress_39247_7
theorem dJ2_compress_39247_8 : decode cJ2_compress_39247 8 = .ok (.iload_n 2, 1) := do_1c DJ2_compress_39247_8
theorem dJ2_compress_39247_9 : decode cJ2_compress_39247 9 = .ok (.invokestatic 123, 3) := do_b8 DJ2_compress_39247_9
theorem dJ2_compress_39247_12 : decode cJ2_compress_39247 12 = .ok (.istore 4, 2) := do_36 DJ2_compress_39247_12
theorem dJ2_compress_39247_14 : decode cJ2_compress_39247 14 = .ok (.iload 4, 2) := do_15 DJ2_compress_39247_14
theorem dJ2_compress_39247_16 : decode cJ2_compress_39247 16 = .ok (.iload_n 2, 1) := do_1c DJ2_compress_39247_16
theorem dJ2_compress_39247_17 : decode cJ2_compress_39247 17 = .ok (.if_icmp .eq 47, 3) := do_9f DJ2_compress_39247_17 (by decide +kernel)
theorem dJ2_compress_39247_20 : decode cJ2_compress_39247 20 = .ok (.aload_n 0, 1) := do_2a DJ2_compress_39247_20
theorem dJ2_compress_39247_21 : decode cJ2_compress_39247 21 = .ok (.iload_n 1, 1) := do_1b DJ2_compress_39247_21
theorem dJ2_compress_39247_22 : decode cJ2_compress_39247 22 = .ok (.iconst 1, 1) := do_04 DJ2_compress_39247_22
theorem dJ2_compress_39247_23 : decode cJ2_compress_39247 23 = .ok (.ishl, 1) := do_78 DJ2_compress_39247_23
theorem dJ2_compress_39247_24 : decode cJ2_compress_39247 24 = .ok (.iload_n 1, 1) := do_1b DJ2_compress_39247_24
theorem dJ2_compress_39247_25 : decode cJ2_compress_39247 25 = .ok (.iload_n 2, 1) := do_1c DJ2_compress_39247_25
theorem dJ2_compress_39247_26 : decode cJ2_compress_39247 26 = .ok (.iadd, 1) := do_60 DJ2_compress_39247_26
theorem dJ2_compress_39247_27 : decode cJ2_compress_39247 27 = .ok (.invokestatic 11, 3) := do_b8 DJ2_compress_39247_27
theorem dJ2_compress_39247_30 : decode cJ2_compress_39247 30 = .ok (.invokestatic 126, 3) := do_b8 DJ2_compress_39247_30
theorem dJ2_compress_39247_33 : decode cJ2_compress_39247 33 = .ok (.astore 5, 2) := do_3a DJ2_compress_39247_33
theorem dJ2_compress_39247_35 : decode cJ2_compress_39247 35 = .ok (.aload 5, 2) := do_19 DJ2_compress_39247_35
theorem dJ2_compress_39247_37 : decode cJ2_compress_39247 37 = .ok (.iload 4, 2) := do_15 DJ2_compress_39247_37
theorem dJ2_compress_39247_39 : decode cJ2_compress_39247 39 = .ok (.invokestatic 71, 3) := do_b8 DJ2_compress_39247_39
theorem dJ2_compress_39247_42 : decode cJ2_compress_39247 42 = .ok (.sipush 255, 3) := do_11 DJ2_compress_39247_42 (by decide +kernel)
theorem dJ2_compress_39247_45 : decode cJ2_compress_39247 45 = .ok (.if_icmp .gt 16, 3) := do_a3 DJ2_compress_39247_45 (by decide +kernel)
theorem dJ2_compress_39247_48 : decode cJ2_compress_39247 48 = .ok (.aload 5, 2) := do_19 DJ2_compress_39247_48
theorem dJ2_compress_39247_50 : decode cJ2_compress_39247 50 = .ok (.iconst 0, 1) := do_03 DJ2_compress_39247_50
theorem dJ2_compress_39247_51 : decode cJ2_compress_39247 51 = .ok (.aload_n 3, 1) := do_2d DJ2_compress_39247_51
theorem dJ2_compress_39247_52 : decode cJ2_compress_39247 52 = .ok (.iconst 0, 1) := do_03 DJ2_compress_39247_52
theorem dJ2_compress_39247_53 : decode cJ2_compress_39247 53 = .ok (.iload_n 2, 1) := do_1c DJ2_compress_39247_53
theorem dJ2_compress_39247_54 : decode cJ2_compress_39247 54 = .ok (.invokestatic 123, 3) := do_b8 DJ2_compress_39247_54
theorem dJ2_compress_39247_57 : decode cJ2_compress_39247 57 = .ok (.iload_n 2, 1) := do_1c DJ2_compress_39247_57
theorem dJ2_compress_39247_58 : decode cJ2_compress_39247 58 = .ok (.if_icmp .eq 6, 3) := do_9f DJ2_compress_39247_58 (by decide +kernel)
theorem dJ2_compress_39247_61 : decode cJ2_compress_39247 61 = .ok (.aload 5, 2) := do_19 DJ2_compress_39247_61
theorem dJ2_compress_39247_63 : decode cJ2_compress_39247 63 = .ok (.areturn, 1) := do_b0 DJ2_compress_39247_63
theorem dJ2_compress_39247_64 : decode cJ2_compress_39247 64 = .ok (.aload_n 3, 1) := do_2d DJ2_compress_39247_64
theorem dJ2_compress_39247_65 : decode cJ2_compress_39247 65 = .ok (.areturn, 1) := do_b0 DJ2_compress_39247_65
def TJ2_compress_5af95_56 : List UInt8 := []
def TJ2_compress_5af95_55 : List UInt8 := 172 :: TJ2_compress_5af95_56
def TJ2_compress_5af95_53 : List UInt8 := 21 :: 4 :: TJ2_compress_5af95_55
def TJ2_compress_5af95_50 : List UInt8 := 167 :: 255 :: 216 :: TJ2_compress_5af95_53
def TJ2_compress_5af95_47 : List UInt8 := 132 :: 5 :: 1 :: TJ2_compress_5af95_50
def TJ2_compress_5af95_44 : List UInt8 := 132 :: 3 :: 1 :: TJ2_compress_5af95_47
def TJ2_compress_5af95_41 : List UInt8 := 132 :: 1 :: 1 :: TJ2_compress_5af95_44
def TJ2_compress_5af95_40 : List UInt8 := 84 :: TJ2_compress_5af95_41
def TJ2_compress_5af95_39 : List UInt8 := 145 :: TJ2_compress_5af95_40
def TJ2_compress_5af95_37 : List UInt8 := 21 :: 6 :: TJ2_compress_5af95_39
def TJ2_compress_5af95_36 : List UInt8 := 29 :: TJ2_compress_5af95_37
def TJ2_compress_5af95_35 : List UInt8 := 44 :: TJ2_compress_5af95_36
def TJ2_compress_5af95_34 : List UInt8 := 172 :: TJ2_compress_5af95_35
def TJ2_compress_5af95_32 : List UInt8 := 21 :: 5 :: TJ2_compress_5af95_34
def TJ2_compress_5af95_29 : List UInt8 := 164 :: 0 :: 6 :: TJ2_compress_5af95_32
def TJ2_compress_5af95_26 : List UInt8 := 17 :: 0 :: 255 :: TJ2_compress_5af95_29
def TJ2_compress_5af95_24 : List UInt8 := 21 :: 6 :: TJ2_compress_5af95_26
def TJ2_compress_5af95_22 : List UInt8 := 54 :: 6 :: TJ2_compress_5af95_24
def TJ2_compress_5af95_19 : List UInt8 := 184 :: 0 :: 71 :: TJ2_compress_5af95_22
def TJ2_compress_5af95_18 : List UInt8 := 27 :: TJ2_compress_5af95_19
def TJ2_compress_5af95_17 : List UInt8 := 42 :: TJ2_compress_5af95_18
def TJ2_compress_5af95_14 : List UInt8 := 162 :: 0 :: 39 :: TJ2_compress_5af95_17
def TJ2_compress_5af95_12 : List UInt8 := 21 :: 4 :: TJ2_compress_5af95_14
def TJ2_compress_5af95_10 : List UInt8 := 21 :: 5 :: TJ2_compress_5af95_12
def TJ2_compress_5af95_8 : List UInt8 := 54 :: 5 :: TJ2_compress_5af95_10
def TJ2_compress_5af95_7 : List UInt8 := 3 :: TJ2_compress_5af95_8
def TJ2_compress_5af95_4 : List UInt8 := 184 :: 0 :: 173 :: TJ2_compress_5af95_7
def TJ2_compress_5af95_3 : List UInt8 := 42 :: TJ2_compress_5af95_4
def TJ2_compress_5af95_1 : List UInt8 := 21 :: 4 :: TJ2_compress_5af95_3
def TJ2_compress_5af95_0 : List UInt8 := 27 :: TJ2_compress_5af95_1
theorem DJ2_compress_5af95_0 : cJ2_compress_5af95.data.toList.drop 0 = TJ2_compress_5af95_0 := by decide +kernel
theorem DJ2_compress_5af95_1 : cJ2_compress_5af95.data.toList.drop 1 = TJ2_compress_5af95_1 := dr1 DJ2_compress_5af95_0
theorem DJ2_compress_5af95_3 : cJ2_compress_5af95.data.toList.drop 3 = TJ2_compress_5af95_3 := dr2 DJ2_compress_5af95_1
theorem DJ2_compress_5af95_4 : cJ2_compress_5af95.data.toList.drop 4 = TJ2_compress_5af95_4 := dr1 DJ2_compress_5af95_3
theorem DJ2_compress_5af95_7 : cJ2_compress_5af95.data.toList.drop 7 = TJ2_compress_5af95_7 := dr3 DJ2_compress_5af95_4
theorem DJ2_compress_5af95_8 : cJ2_compress_5af95.data.toList.drop 8 = TJ2_compress_5af95_8 := dr1 DJ2_compress_5af95_7
theorem DJ2_compress_5af95_10 : cJ2_compress_5af95.data.toList.drop 10 = TJ2_compress_5af95_10 := dr2 DJ2_compress_5af95_8
theorem DJ2_compress_5af95_12 : cJ2_compress_5af95.data.toList.drop 12 = TJ2_compress_5af95_12 := dr2 DJ2_compress_5af95_10
theorem DJ2_compress_5af95_14 : cJ2_compress_5af95.data.toList.drop 14 = TJ2_compress_5af95_14 := dr2 DJ2_compress_5af95_12
theorem DJ2_compress_5af95_17 : cJ2_compress_5af95.data.toList.drop 17 = TJ2_compress_5af95_17 := dr3 DJ2_compress_5af95_14
theorem DJ2_compress_5af95_18 : cJ2_compress_5af95.data.toList.drop 18 = TJ2_compress_5af95_18 := dr1 DJ2_compress_5af95_17
theorem DJ2_compress_5af95_19 : cJ2_compress_5af95.data.toList.drop 19 = TJ2_compress_5af95_19 := dr1 DJ2_compress_5af95_18
theorem DJ2_compress_5af95_22 : cJ2_compress_5af95.data.toList.drop 22 = TJ2_compress_5af95_22 := dr3 DJ2_compress_5af95_19
theorem DJ2_compress_5af95_24 : cJ2_compress_5af95.data.toList.drop 24 = TJ2_compress_5af95_24 := dr2 DJ2_compress_5af95_22
theorem DJ2_compress_5af95_26 : cJ2_compress_5af95.data.toList.drop 26 = TJ2_compress_5af95_26 := dr2 DJ2_compress_5af95_24
theorem DJ2_compress_5af95_29 : cJ2_compress_5af95.data.toList.drop 29 = TJ2_compress_5af95_29 := dr3 DJ2_compress_5af95_26
theorem DJ2_compress_5af95_32 : cJ2_compress_5af95.data.toList.drop 32 = TJ2_compress_5af95_32 := dr3 DJ2_compress_5af95_29
theorem DJ2_compress_5af95_34 : cJ2_compress_5af95.data.toList.drop 34 = TJ2_compress_5af95_34 := dr2 DJ2_compress_5af95_32
theorem DJ2_compress_5af95_35 : cJ2_compress_5af95.data.toList.drop 35 = TJ2_compress_5af95_35 := dr1 DJ2_compress_5af95_34
theorem DJ2_compress_5af95_36 : cJ2_compress_5af95.data.toList.drop 36 = TJ2_compress_5af95_36 := dr1 DJ2_compress_5af95_35
theorem DJ2_compress_5af95_37 : cJ2_compress_5af95.data.toList.drop 37 = TJ2_compress_5af95_37 := dr1 DJ2_compress_5af95_36
theorem DJ2_compress_5af95_39 : cJ2_compress_5af95.data.toList.drop 39 = TJ2_compress_5af95_39 := dr2 DJ2_compress_5af95_37
theorem DJ2_compress_5af95_40 : cJ2_compress_5af95.data.toList.drop 40 = TJ2_compress_5af95_40 := dr1 DJ2_compress_5af95_39
theorem DJ2_compress_5af95_41 : cJ2_compress_5af95.data.toList.drop 41 = TJ2_compress_5af95_41 := dr1 DJ2_compress_5af95_40
theorem DJ2_compress_5af95_44 : cJ2_compress_5af95.data.toList.drop 44 = TJ2_compress_5af95_44 := dr3 DJ2_compress_5af95_41
theorem DJ2_compress_5af95_47 : cJ2_compress_5af95.data.toList.drop 47 = TJ2_compress_5af95_47 := dr3 DJ2_compress_5af95_44
theorem DJ2_compress_5af95_50 : cJ2_compress_5af95.data.toList.drop 50 = TJ2_compress_5af95_50 := dr3 DJ2_compress_5af95_47
theorem DJ2_compress_5af95_53 : cJ2_compress_5af95.data.toList.drop 53 = TJ2_compress_5af95_53 := dr3 DJ2_compress_5af95_50
theorem DJ2_compress_5af95_55 : cJ2_compress_5af95.data.toList.drop 55 = TJ2_compress_5af95_55 := dr2 DJ2_compress_5af95_53
theorem dJ2_compress_5af95_0 : decode cJ2_compress_5af95 0 = .ok (.iload_n 1, 1) := do_1b DJ2_compress_5af95_0
theorem dJ2_compress_5af95_1 : decode cJ2_compress_5af95 1 = .ok (.iload 4, 2) := do_15 DJ2_compress_5af95_1
theorem dJ2_compress_5af95_3 : decode cJ2_compress_5af95 3 = .ok (.aload_n 0, 1) := do_2a DJ2_compress_5af95_3
theorem dJ2_compress_5af95_4 : decode cJ2_compress_5af95 4 = .ok (.invokestatic 173, 3) := do_b8 DJ2_compress_5af95_4
theorem dJ2_compress_5af95_7 : decode cJ2_compress_5af95 7 = .ok (.iconst 0, 1) := do_03 DJ2_compress_5af95_7
theorem dJ2_compress_5af95_8 : decode cJ2_compress_5af95 8 = .ok (.istore 5, 2) := do_36 DJ2_compress_5af95_8
theorem dJ2_compress_5af95_10 : decode cJ2_compress_5af95 10 = .ok (.iload 5, 2) := do_15 DJ2_compress_5af95_10
theorem dJ2_compress_5af95_12 : decode cJ2_compress_5af95 12 = .ok (.iload 4, 2) := do_15 DJ2_compress_5af95_12
theorem dJ2_compress_5af95_14 : decode cJ2_compress_5af95 14 = .ok (.if_icmp .ge 39, 3) := do_a2 DJ2_compress_5af95_14 (by decide +kernel)
theorem dJ2_compress_5af95_17 : decode cJ2_compress_5af95 17 = .ok (.aload_n 0, 1) := do_2a DJ2_compress_5af95_17
theorem dJ2_compress_5af95_18 : decode cJ2_compress_5af95 18 = .ok (.iload_n 1, 1) := do_1b DJ2_compress_5af95_18
theorem dJ2_compress_5af95_19 : decode cJ2_compress_5af95 19 = .ok (.invokestatic 71, 3) := do_b8 DJ2_compress_5af95_19
theorem dJ2_compress_5af95_22 : decode cJ2_compress_5af95 22 = .ok (.istore 6, 2) := do_36 DJ2_compress_5af95_22
theorem dJ2_compress_5af95_24 : decode cJ2_compress_5af95 24 = .ok (.iload 6, 2) := do_15 DJ2_compress_5af95_24
theorem dJ2_compress_5af95_26 : decode cJ2_compress_5af95 26 = .ok (.sipush 255, 3) := do_11 DJ2_compress_5af95_26 (by decide +kernel)
theorem dJ2_compress_5af95_29 : decode cJ2_compress_5af95 29 = .ok (.if_icmp .le 6, 3) := do_a4 DJ2_compress_5af95_29 (by decide +kernel)
theorem dJ2_compress_5af95_32 : decode cJ2_compress_5af95 32 = .ok (.iload 5, 2) := do_15 DJ2_compress_5af95_32
theorem dJ2_compress_5af95_34 : decode cJ2_compress_5af95 34 = .ok (.ireturn, 1) := do_ac DJ2_compress_5af95_34
theorem dJ2_compress_5af95_35 : decode cJ2_compress_5af95 35 = .ok (.aload_n 2, 1) := do_2c DJ2_compress_5af95_35
theorem dJ2_compress_5af95_36 : decode cJ2_compress_5af95 36 = .ok (.iload_n 3, 1) := do_1d DJ2_compress_5af95_36
theorem dJ2_compress_5af95_37 : decode cJ2_compress_5af95 37 = .ok (.iload 6, 2) := do_15 DJ2_compress_5af95_37
theorem dJ2_compress_5af95_39 : decode cJ2_compress_5af95 39 = .ok (.i2b, 1) := do_91 DJ2_compress_5af95_39
theorem dJ2_compress_5af95_40 : decode cJ2_compress_5af95 40 = .ok (.bastore, 1) := do_54 DJ2_compress_5af95_40
theorem dJ2_compress_5af95_41 : decode cJ2_compress_5af95 41 = .ok (.iinc 1 1, 3) := do_84 DJ2_compress_5af95_41
theorem dJ2_compress_5af95_44 : decode cJ2_compress_5af95 44 = .ok (.iinc 3 1, 3) := do_84 DJ2_compress_5af95_44
theorem dJ2_compress_5af95_47 : decode cJ2_compress_5af95 47 = .ok (.iinc 5 1, 3) := do_84 DJ2_compress_5af95_47
theorem dJ2_compress_5af95_50 : decode cJ2_compress_5af95 50 = .ok (.goto (-40), 3) := do_a7 DJ2_compress_5af95_50 (by decide +kernel)
theorem dJ2_compress_5af95_53 : decode cJ2_compress_5af95 53 = .ok (.iload 4, 2) := do_15 DJ2_compress_5af95_53
theorem dJ2_compress_5af95_55 : decode cJ2_compress_5af95 55 = .ok (.ireturn, 1) := do_ac DJ2_compress_5af95_55
def TJ2_fillNull_b72d1_12 : List UInt8 := []
def TJ2_fillNull_b72d1_11 : List UInt8 := 177 :: TJ2_fillNull_b72d1_12
def TJ2_fillNull_b72d1_8 : List UInt8 := 184 :: 1 :: 124 :: TJ2_fillNull_b72d1_11
def TJ2_fillNull_b72d1_7 : List UInt8 := 3 :: TJ2_fillNull_b72d1_8
def TJ2_fillNull_b72d1_6 : List UInt8 := 120 :: TJ2_fillNull_b72d1_7
def TJ2_fillNull_b72d1_5 : List UInt8 := 4 :: TJ2_fillNull_b72d1_6
def TJ2_fillNull_b72d1_4 : List UInt8 := 28 :: TJ2_fillNull_b72d1_5
def TJ2_fillNull_b72d1_3 : List UInt8 := 120 :: TJ2_fillNull_b72d1_4
def TJ2_fillNull_b72d1_2 : List UInt8 := 4 :: TJ2_fillNull_b72d1_3
def TJ2_fillNull_b72d1_1 : List UInt8 := 27 :: TJ2_fillNull_b72d1_2
def TJ2_fillNull_b72d1_0 : List UInt8 := 42 :: TJ2_fillNull_b72d1_1
theorem DJ2_fillNull_b72d1_0 : cJ2_fillNull_b72d1.data.toList.drop 0 = TJ2_fillNull_b72d1_0 := by decide +kernel
theorem DJ2_fillNull_b72d1_1 : cJ2_fillNull_b72d1.data.toList.drop 1 = TJ2_fillNull_b72d1_1 := dr1 DJ2_fillNull_b72d1_0
theorem DJ2_fillNull_b72d1_2 : cJ2_fillNull_b72d1.data.toList.drop 2 = TJ2_fillNull_b72d1_2 := dr1 DJ2_fillNull_b72d1_1
theorem DJ2_fillNull_b72d1_3 : cJ2_fillNull_b72d1.data.toList.drop 3 = TJ2_fillNull_b72d1_3 := dr1 DJ2_fillNull_b72d1_2
theorem DJ2_fillNull_b72d1_4 : cJ2_fillNull_b72d1.data.toList.drop 4 = TJ2_fillNull_b72d1_4 := dr1 DJ2_fillNull_b72d1_3
theorem DJ2_fillNull_b72d1_5 : cJ2_fillNull_b72d1.data.toList.drop 5 = TJ2_fillNull_b72d1_5 := dr1 DJ2_fillNull_b72d1_4
theorem DJ2_fillNull_b72d1_6 : cJ2_fillNull_b72d1.data.toList.drop 6 = TJ2_fillNull_b72d1_6 := dr1 DJ2_fillNull_b72d1_5
theorem DJ2_fillNull_b72d1_7 : cJ2_fillNull_b72d1.data.toList.drop 7 = TJ2_fillNull_b72d1_7 := dr1 DJ2_fillNull_b72d1_6
theorem DJ2_fillNull_b72d1_8 : cJ2_fillNull_b72d1.data.toList.drop 8 = TJ2_fillNull_b72d1_8 := dr1 DJ2_fillNull_b72d1_7
theorem DJ2_fillNull_b72d1_11 : cJ2_fillNull_b72d1.data.toList.drop 11 = TJ2_fillNull_b72d1_11 := dr3 DJ2_fillNull_b72d1_8
theorem dJ2_fillNull_b72d1_0 : decode cJ2_fillNull_b72d1 0 = .ok (.aload_n 0, 1) := do_2a DJ2_fillNull_b72d1_0
theorem dJ2_fillNull_b72d1_1 : decode cJ2_fillNull_b72d1 1 = .ok (.iload_n 1, 1) := do_1b DJ2_fillNull_b72d1_1
theorem dJ2_fillNull_b72d1_2 : decode cJ2_fillNull_b72d1 2 = .ok (.iconst 1, 1) := do_04 DJ2_fillNull_b72d1_2
theorem dJ2_fillNull_b72d1_3 : decode cJ2_fillNull_b72d1 3 = .ok (.ishl, 1) := do_78 DJ2_fillNull_b72d1_3
theorem dJ2_fillNull_b72d1_4 : decode cJ2_fillNull_b72d1 4 = .ok (.iload_n 2, 1) := do_1c DJ2_fillNull_b72d1_4
theorem dJ2_fillNull_b72d1_5 : decode cJ2_fillNull_b72d1 5 = .ok (.iconst 1, 1) := do_04 DJ2_fillNull_b72d1_5
theorem dJ2_fillNull_b72d1_6 : decode cJ2_fillNull_b72d1 6 = .ok (.ishl, 1) := do_78 DJ2_fillNull_b72d1_6
theorem dJ2_fillNull_b72d1_7 : decode cJ2_fillNull_b72d1 7 = .ok (.iconst 0, 1) := do_03 DJ2_fillNull_b72d1_7
theorem dJ2_fillNull_b72d1_8 : decode cJ2_fillNull_b72d1 8 = .ok (.invokestatic 380, 3) := do_b8 DJ2_fillNull_b72d1_8
theorem dJ2_fillNull_b72d1_11 : decode cJ2_fillNull_b72d1 11 = .ok (.return_, 1) := do_b1 DJ2_fillNull_b72d1_11
def TJ2_putCharSB_b72d1_12 : List UInt8 := []
def TJ2_putCharSB_b72d1_11 : List UInt8 := 177 :: TJ2_putCharSB_b72d1_12
def TJ2_putCharSB_b72d1_8 : List UInt8 := 184 :: 0 :: 111 :: TJ2_putCharSB_b72d1_11
def TJ2_putCharSB_b72d1_7 : List UInt8 := 28 :: TJ2_putCharSB_b72d1_8
def TJ2_putCharSB_b72d1_6 : List UInt8 := 27 :: TJ2_putCharSB_b72d1_7
def TJ2_putCharSB_b72d1_5 : List UInt8 := 42 :: TJ2_putCharSB_b72d1_6
def TJ2_putCharSB_b72d1_2 : List UInt8 := 184 :: 0 :: 67 :: TJ2_putCharSB_b72d1_5
def TJ2_putCharSB_b72d1_1 : List UInt8 := 42 :: TJ2_putCharSB_b72d1_2
def TJ2_putCharSB_b72d1_0 : List UInt8 := 27 :: TJ2_putCharSB_b72d1_1
theorem DJ2_putCharSB_b72d1_0 : cJ2_putCharSB_b72d1.data.toList.drop 0 = TJ2_putCharSB_b72d1_0 := by decide +kernel
theorem DJ2_putCharSB_b72d1_1 : cJ2_putCharSB_b72d1.data.toList.drop 1 = TJ2_putCharSB_b72d1_1 := dr1 DJ2_putCharSB_b72d1_0
theorem DJ2_putCharSB_b72d1_2 : cJ2_putCharSB_b72d1.data.toList.drop 2 = TJ2_putCharSB_b72d1_2 := dr1 DJ2_putCharSB_b72d1_1
theorem DJ2_putCharSB_b72d1_5 : cJ2_putCharSB_b72d1.data.toList.drop 5 = TJ2_putCharSB_b72d1_5 := dr3 DJ2_putCharSB_b72d1_2
theorem DJ2_putCharSB_b72d1_6 : cJ2_putCharSB_b72d1.data.toList.drop 6 = TJ2_putCharSB_b72d1_6 := dr1 DJ2_putCharSB_b72d1_5
theorem DJ2_putCharSB_b72d1_7 : cJ2_putCharSB_b72d1.data.toList.drop 7 = TJ2_putCharSB_b72d1_7 := dr1 DJ2_putCharSB_b72d1_6
theorem DJ2_putCharSB_b72d1_8 : cJ2_putCharSB_b72d1.data.toList.drop 8 = TJ2_putCharSB_b72d1_8 := dr1 DJ2_putCharSB_b72d1_7
theorem DJ2_putCharSB_b72d1_11 : cJ2_putCharSB_b72d1.data.toList.drop 11 = TJ2_putCharSB_b72d1_11 := dr3 DJ2_putCharSB_b72d1_8
theorem dJ2_putCharSB_b72d1_0 : decode cJ2_putCharSB_b72d1 0 = .ok (.iload_n 1, 1) := do_1b DJ2_putCharSB_b72d1_0
theorem dJ2_putCharSB_b72d1_1 : decode cJ2_putCharSB_b72d1 1 = .ok (.aload_n 0, 1) := do_2a DJ2_putCharSB_b72d1_1
theorem dJ2_putCharSB_b72d1_2 : decode cJ2_putCharSB_b72d1 2 = .ok (.invokestatic 67, 3) := do_b8 DJ2_putCharSB_b72d1_2
theorem dJ2_putCharSB_b72d1_5 : decode cJ2_putCharSB_b72d1 5 = .ok (.aload_n 0, 1) := do_2a DJ2_putCharSB_b72d1_5
theorem dJ2_putCharSB_b72d1_6 : decode cJ2_putCharSB_b72d1 6 = .ok (.iload_n 1, 1) := do_1b DJ2_putCharSB_b72d1_6
theorem dJ2_putCharSB_b72d1_7 : decode cJ2_putCharSB_b72d1 7 = .ok (.iload_n 2, 1) := do_1c DJ2_putCharSB_b72d1_7
theorem dJ2_putCharSB_b72d1_8 : decode cJ2_putCharSB_b72d1 8 = .ok (.invokestatic 111, 3) := do_b8 DJ2_putCharSB_b72d1_8
theorem dJ2_putCharSB_b72d1_11 : decode cJ2_putCharSB_b72d1 11 = .ok (.return_, 1) := do_b1 DJ2_putCharSB_b72d1_11
def TJ2_getChars_46870_37 : List UInt8 := []
def TJ2_getChars_46870_36 : List UInt8 := 172 :: TJ2_getChars_46870_37
def TJ2_getChars_46870_34 : List UInt8 := 21 :: 4 :: TJ2_getChars_46870_36
def TJ2_getChars_46870_33 : List UInt8 := 191 :: TJ2_getChars_46870_34
def TJ2_getChars_46870_30 : List UInt8 := 183 :: 0 :: 66 :: TJ2_getChars_46870_33
def TJ2_getChars_46870_29 : List UInt8 := 89 :: TJ2_getChars_46870_30
def TJ2_getChars_46870_26 : List UInt8 := 187 :: 0 :: 52 :: TJ2_getChars_46870_29
def TJ2_getChars_46870_23 : List UInt8 := 159 :: 0 :: 11 :: TJ2_getChars_46870_26
def TJ2_getChars_46870_21 : List UInt8 := 21 :: 4 :: TJ2_getChars_46870_23
def TJ2_getChars_46870_20 : List UInt8 := 27 :: TJ2_getChars_46870_21
def TJ2_getChars_46870_17 : List UInt8 := 154 :: 0 :: 17 :: TJ2_getChars_46870_20
def TJ2_getChars_46870_14 : List UInt8 := 178 :: 0 :: 44 :: TJ2_getChars_46870_17
def TJ2_getChars_46870_12 : List UInt8 := 54 :: 4 :: TJ2_getChars_46870_14
def TJ2_getChars_46870_9 : List UInt8 := 184 :: 1 :: 137 :: TJ2_getChars_46870_12
def TJ2_getChars_46870_8 : List UInt8 := 45 :: TJ2_getChars_46870_9
def TJ2_getChars_46870_7 : List UInt8 := 28 :: TJ2_getChars_46870_8
def TJ2_getChars_46870_6 : List UInt8 := 26 :: TJ2_getChars_46870_7
def TJ2_getChars_46870_3 : List UInt8 := 184 :: 0 :: 96 :: TJ2_getChars_46870_6
def TJ2_getChars_46870_2 : List UInt8 := 45 :: TJ2_getChars_46870_3
def TJ2_getChars_46870_1 : List UInt8 := 28 :: TJ2_getChars_46870_2
def TJ2_getChars_46870_0 : List UInt8 := 27 :: TJ2_getChars_46870_1
theorem DJ2_getChars_46870_0 : cJ2_getChars_46870.data.toList.drop 0 = TJ2_getChars_46870_0 := by decide +kernel
theorem DJ2_getChars_46870_1 : cJ2_getChars_46870.data.toList.drop 1 = TJ2_getChars_46870_1 := dr1 DJ2_getChars_46870_0
theorem DJ2_getChars_46870_2 : cJ2_getChars_46870.data.toList.drop 2 = TJ2_getChars_46870_2 := dr1 DJ2_getChars_46870_1
theorem DJ2_getChars_46870_3 : cJ2_getChars_46870.data.toList.drop 3 = TJ2_getChars_46870_3 := dr1 DJ2_getChars_46870_2
theorem DJ2_getChars_46870_6 : cJ2_getChars_46870.data.toList.drop 6 = TJ2_getChars_46870_6 := dr3 DJ2_getChars_46870_3
theorem DJ2_getChars_46870_7 : cJ2_getChars_46870.data.toList.drop 7 = TJ2_getChars_46870_7 := dr1 DJ2_getChars_46870_6
theorem DJ2_getChars_46870_8 : cJ2_getChars_46870.data.toList.drop 8 = TJ2_getChars_46870_8 := dr1 DJ2_getChars_46870_7
theorem DJ2_getChars_46870_9 : cJ2_getChars_46870.data.toList.drop 9 = TJ2_getChars_46870_9 := dr1 DJ2_getChars_46870_8
theorem DJ2_getChars_46870_12 : cJ2_getChars_46870.data.toList.drop 12 = TJ2_getChars_46870_12 := dr3 DJ2_getChars_46870_9
theorem DJ2_getChars_46870_14 : cJ2_getChars_46870.data.toList.drop 14 = TJ2_getChars_46870_14 := dr2 DJ2_getChars_46870_12
theorem DJ2_getChars_46870_17 : cJ2_getChars_46870.data.toList.drop 17 = TJ2_getChars_46870_17 := dr3 DJ2_getChars_46870_14
theorem DJ2_getChars_46870_20 : cJ2_getChars_46870.data.toList.drop 20 = TJ2_getChars_46870_20 := dr3 DJ2_getChars_46870_17
theorem DJ2_getChars_46870_21 : cJ2_getChars_46870.data.toList.drop 21 = TJ2_getChars_46870_21 := dr1 DJ2_getChars_46870_20
theorem DJ2_getChars_46870_23 : cJ2_getChars_46870.data.toList.drop 23 = TJ2_getChars_46870_23 := dr2 DJ2_getChars_46870_21
theorem DJ2_getChars_46870_26 : cJ2_getChars_46870.data.toList.drop 26 = TJ2_getChars_46870_26 := dr3 DJ2_getChars_46870_23
theorem DJ2_getChars_46870_29 : cJ2_getChars_46870.data.toList.drop 29 = TJ2_getChars_46870_29 := dr3 DJ2_getChars_46870_26
theorem DJ2_getChars_46870_30 : cJ2_getChars_46870.data.toList.drop 30 = TJ2_getChars_46870_30 := dr1 DJ2_getChars_46870_29
theorem DJ2_getChars_46870_33 : cJ2_getChars_46870.data.toList.drop 33 = TJ2_getChars_46870_33 := dr3 DJ2_getChars_46870_30
theorem DJ2_getChars_46870_34 : cJ2_getChars_46870.data.toList.drop 34 = TJ2_getChars_46870_34 := dr1 DJ2_getChars_46870_33
theorem DJ2_getChars_46870_36 : cJ2_getChars_46870.data.toList.drop 36 = TJ2_getChars_46870_36 := dr2 DJ2_getChars_46870_34
theorem dJ2_getChars_46870_0 : decode cJ2_getChars_46870 0 = .ok (.iload_n 1, 1) := do_1b DJ2_getChars_46870_0
theorem dJ2_getChars_46870_1 : decode cJ2_getChars_46870 1 = .ok (.iload_n 2, 1) := do_1c DJ2_getChars_46870_1
theorem dJ2_getChars_46870_2 : decode cJ2_getChars_46870 2 = .ok (.aload_n 3, 1) := do_2d DJ2_getChars_46870_2
theorem dJ2_getChars_46870_3 : decode cJ2_getChars_46870 3 = .ok (.invokestatic 96, 3) := do_b8 DJ2_getChars_46870_3
theorem dJ2_getChars_46870_6 : decode cJ2_getChars_46870 6 = .ok (.iload_n 0, 1) := do_1a DJ2_getChars_46870_6
theorem dJ2_getChars_46870_7 : decode cJ2_getChars_46870 7 = .ok (.iload_n 2, 1) := do_1c DJ2_getChars_46870_7
theorem dJ2_getChars_46870_8 : decode cJ2_getChars_46870 8 = .ok (.aload_n 3, 1) := do_2d DJ2_getChars_46870_8
theorem dJ2_getChars_46870_9 : decode cJ2_getChars_46870 9 = .ok (.invokestatic 393, 3) := do_b8 DJ2_getChars_46870_9
theorem dJ2_getChars_46870_12 : decode cJ2_getChars_46870 12 = .ok (.istore 4, 2) := do_36 DJ2_getChars_46870_12
theorem dJ2_getChars_46870_14 : decode cJ2_getChars_46870 14 = .ok (.getstatic 44, 3) := do_b2 DJ2_getChars_46870_14
theorem dJ2_getChars_46870_17 : decode cJ2_getChars_46870 17 = .ok (.ifCond .ne 17, 3) := do_9a DJ2_getChars_46870_17 (by decide +kernel)
theorem dJ2_getChars_46870_20 : decode cJ2_getChars_46870 20 = .ok (.iload_n 1, 1) := do_1b DJ2_getChars_46870_20
theorem dJ2_getChars_46870_21 : decode cJ2_getChars_46870 21 = .ok (.iload 4, 2) := do_15 DJ2_getChars_46870_21
theorem dJ2_getChars_46870_23 : decode cJ2_getChars_46870 23 = .ok (.if_icmp .eq 11, 3) := do_9f DJ2_getChars_46870_23 (by decide +kernel)
theorem dJ2_getChars_46870_26 : decode cJ2_getChars_46870 26 = .ok (.new 52, 3) := do_bb DJ2_getChars_46870_26
theorem dJ2_getChars_46870_29 : decode cJ2_getChars_46870 29 = .ok (.dup, 1) := do_59 DJ2_getChars_46870_29
theorem dJ2_getChars_46870_30 : decode cJ2_getChars_46870 30 = .ok (.invokespecial 66, 3) := do_b7 DJ2_getChars_46870_30
theorem dJ2_getChars_46870_33 : decode cJ2_getChars_46870 33 = .ok (.athrow, 1) := do_bf DJ2_getChars_46870_33
theorem dJ2_getChars_46870_34 : decode cJ2_getChars_46870 34 = .ok (.iload 4, 2) := do_15 DJ2_getChars_46870_34
theorem dJ2_getChars_46870_36 : decode cJ2_getChars_46870 36 = .ok (.ireturn, 1) := do_ac DJ2_getChars_46870_36
def TJ2_putCharsAt_cd4e5_73 : List UInt8 := []
def TJ2_putCharsAt_cd4e5_72 : List UInt8 := 172 :: TJ2_putCharsAt_cd4e5_73
def TJ2_putCharsAt_cd4e5_70 : List UInt8 := 21 :: 6 :: TJ2_putCharsAt_cd4e5_72
def TJ2_putCharsAt_cd4e5_69 : List UInt8 := 191 :: TJ2_putCharsAt_cd4e5_70
def TJ2_putCharsAt_cd4e5_66 : List UInt8 := 183 :: 0 :: 66 :: TJ2_putCharsAt_cd4e5_69
def TJ2_putCharsAt_cd4e5_65 : List UInt8 := 89 :: TJ2_putCharsAt_cd4e5_66
def TJ2_putCharsAt_cd4e5_62 : List UInt8 := 187 :: 0 :: 52 :: TJ2_putCharsAt_cd4e5_65
def TJ2_putCharsAt_cd4e5_59 : List UInt8 := 159 :: 0 :: 11 :: TJ2_putCharsAt_cd4e5_62
def TJ2_putCharsAt_cd4e5_57 : List UInt8 := 21 :: 6 :: TJ2_putCharsAt_cd4e5_59
def TJ2_putCharsAt_cd4e5_56 : List UInt8 := 27 :: TJ2_putCharsAt_cd4e5_57
def TJ2_putCharsAt_cd4e5_53 : List UInt8 := 154 :: 0 :: 17 :: TJ2_putCharsAt_cd4e5_56
def TJ2_putCharsAt_cd4e5_50 : List UInt8 := 178 :: 0 :: 44 :: TJ2_putCharsAt_cd4e5_53
def TJ2_putCharsAt_cd4e5_47 : List UInt8 := 184 :: 0 :: 111 :: TJ2_putCharsAt_cd4e5_50
def TJ2_putCharsAt_cd4e5_45 : List UInt8 := 21 :: 5 :: TJ2_putCharsAt_cd4e5_47
def TJ2_putCharsAt_cd4e5_42 : List UInt8 := 132 :: 1 :: 1 :: TJ2_putCharsAt_cd4e5_45
def TJ2_putCharsAt_cd4e5_41 : List UInt8 := 27 :: TJ2_putCharsAt_cd4e5_42
def TJ2_putCharsAt_cd4e5_40 : List UInt8 := 42 :: TJ2_putCharsAt_cd4e5_41
def TJ2_putCharsAt_cd4e5_37 : List UInt8 := 184 :: 0 :: 111 :: TJ2_putCharsAt_cd4e5_40
def TJ2_putCharsAt_cd4e5_35 : List UInt8 := 21 :: 4 :: TJ2_putCharsAt_cd4e5_37
def TJ2_putCharsAt_cd4e5_32 : List UInt8 := 132 :: 1 :: 1 :: TJ2_putCharsAt_cd4e5_35
def TJ2_putCharsAt_cd4e5_31 : List UInt8 := 27 :: TJ2_putCharsAt_cd4e5_32
def TJ2_putCharsAt_cd4e5_30 : List UInt8 := 42 :: TJ2_putCharsAt_cd4e5_31
def TJ2_putCharsAt_cd4e5_27 : List UInt8 := 184 :: 0 :: 111 :: TJ2_putCharsAt_cd4e5_30
def TJ2_putCharsAt_cd4e5_26 : List UInt8 := 29 :: TJ2_putCharsAt_cd4e5_27
def TJ2_putCharsAt_cd4e5_23 : List UInt8 := 132 :: 1 :: 1 :: TJ2_putCharsAt_cd4e5_26
def TJ2_putCharsAt_cd4e5_22 : List UInt8 := 27 :: TJ2_putCharsAt_cd4e5_23
def TJ2_putCharsAt_cd4e5_21 : List UInt8 := 42 :: TJ2_putCharsAt_cd4e5_22
def TJ2_putCharsAt_cd4e5_18 : List UInt8 := 184 :: 0 :: 111 :: TJ2_putCharsAt_cd4e5_21
def TJ2_putCharsAt_cd4e5_17 : List UInt8 := 28 :: TJ2_putCharsAt_cd4e5_18
def TJ2_putCharsAt_cd4e5_14 : List UInt8 := 132 :: 1 :: 1 :: TJ2_putCharsAt_cd4e5_17
def TJ2_putCharsAt_cd4e5_13 : List UInt8 := 27 :: TJ2_putCharsAt_cd4e5_14
def TJ2_putCharsAt_cd4e5_12 : List UInt8 := 42 :: TJ2_putCharsAt_cd4e5_13
def TJ2_putCharsAt_cd4e5_9 : List UInt8 := 184 :: 0 :: 96 :: TJ2_putCharsAt_cd4e5_12
def TJ2_putCharsAt_cd4e5_8 : List UInt8 := 42 :: TJ2_putCharsAt_cd4e5_9
def TJ2_putCharsAt_cd4e5_6 : List UInt8 := 21 :: 6 :: TJ2_putCharsAt_cd4e5_8
def TJ2_putCharsAt_cd4e5_5 : List UInt8 := 27 :: TJ2_putCharsAt_cd4e5_6
def TJ2_putCharsAt_cd4e5_3 : List UInt8 := 54 :: 6 :: TJ2_putCharsAt_cd4e5_5
def TJ2_putCharsAt_cd4e5_2 : List UInt8 := 96 :: TJ2_putCharsAt_cd4e5_3
def TJ2_putCharsAt_cd4e5_1 : List UInt8 := 7 :: TJ2_putCharsAt_cd4e5_2
def TJ2_putCharsAt_cd4e5_0 : List UInt8 := 27 :: TJ2_putCharsAt_cd4e5_1
theorem DJ2_putCharsAt_cd4e5_0 : cJ2_putCharsAt_cd4e5.data.toList.drop 0 = TJ2_putCharsAt_cd4e5_0 := by decide +kernel
theorem DJ2_putCharsAt_cd4e5_1 : cJ2_putCharsAt_cd4e5.data.toList.drop 1 = TJ2_putCharsAt_cd4e5_1 := dr1 DJ2_putCharsAt_cd4e5_0
theorem DJ2_putCharsAt_cd4e5_2 : cJ2_putCharsAt_cd4e5.data.toList.drop 2 = TJ2_putCharsAt_cd4e5_2 := dr1 DJ2_putCharsAt_cd4e5_1
theorem DJ2_putCharsAt_cd4e5_3 : cJ2_putCharsAt_cd4e5.data.toList.drop 3 = TJ2_putCharsAt_cd4e5_3 := dr1 DJ2_putCharsAt_cd4e5_2
theorem DJ2_putCharsAt_cd4e5_5 : cJ2_putCharsAt_cd4e5.data.toList.drop 5 = TJ2_putCharsAt_cd4e5_5 := dr2 DJ2_putCharsAt_cd4e5_3
theorem DJ2_putCharsAt_cd4e5_6 : cJ2_putCharsAt_cd4e5.data.toList.drop 6 = TJ2_putCharsAt_cd4e5_6 := dr1 DJ2_putCharsAt_cd4e5_5
theorem DJ2_putCharsAt_cd4e5_8 : cJ2_putCharsAt_cd4e5.data.toList.drop 8 = TJ2_putCharsAt_cd4e5_8 := dr2 DJ2_putCharsAt_cd4e5_6
theorem DJ2_putCharsAt_cd4e5_9 : cJ2_putCharsAt_cd4e5.data.toList.drop 9 = TJ2_putCharsAt_cd4e5_9 := dr1 DJ2_putCharsAt_cd4e5_8
theorem DJ2_putCharsAt_cd4e5_12 : cJ2_putCharsAt_cd4e5.data.toList.drop 12 = TJ2_putCharsAt_cd4e5_12 := dr3 DJ2_putCharsAt_cd4e5_9
theorem DJ2_putCharsAt_cd4e5_13 : cJ2_putCharsAt_cd4e5.data.toList.drop 13 = TJ2_putCharsAt_cd4e5_13 := dr1 DJ2_putCharsAt_cd4e5_12
theorem DJ2_putCharsAt_cd4e5_14 : cJ2_putCharsAt_cd4e5.data.toList.drop 14 = TJ2_putCharsAt_cd4e5_14 := dr1 DJ2_putCharsAt_cd4e5_13
theorem DJ2_putCharsAt_cd4e5_17 : cJ2_putCharsAt_cd4e5.data.toList.drop 17 = TJ2_putCharsAt_cd4e5_17 := dr3 DJ2_putCharsAt_cd4e5_14
theorem DJ2_putCharsAt_cd4e5_18 : cJ2_putCharsAt_cd4e5.data.toList.drop 18 = TJ2_putCharsAt_cd4e5_18 := dr1 DJ2_putCharsAt_cd4e5_17
theorem DJ2_putCharsAt_cd4e5_21 : cJ2_putCharsAt_cd4e5.data.toList.drop 21 = TJ2_putCharsAt_cd4e5_21 := dr3 DJ2_putCharsAt_cd4e5_18
theorem DJ2_putCharsAt_cd4e5_22 : cJ2_putCharsAt_cd4e5.data.toList.drop 22 = TJ2_putCharsAt_cd4e5_22 := dr1 DJ2_putCharsAt_cd4e5_21
theorem DJ2_putCharsAt_cd4e5_23 : cJ2_putCharsAt_cd4e5.data.toList.drop 23 = TJ2_putCharsAt_cd4e5_23 := dr1 DJ2_putCharsAt_cd4e5_22
theorem DJ2_putCharsAt_cd4e5_26 : cJ2_putCharsAt_cd4e5.data.toList.drop 26 = TJ2_putCharsAt_cd4e5_26 := dr3 DJ2_putCharsAt_cd4e5_23
theorem DJ2_putCharsAt_cd4e5_27 : cJ2_putCharsAt_cd4e5.data.toList.drop 27 = TJ2_putCharsAt_cd4e5_27 := dr1 DJ2_putCharsAt_cd4e5_26
theorem DJ2_putCharsAt_cd4e5_30 : cJ2_putCharsAt_cd4e5.data.toList.drop 30 = TJ2_putCharsAt_cd4e5_30 := dr3 DJ2_putCharsAt_cd4e5_27
theorem DJ2_putCharsAt_cd4e5_31 : cJ2_putCharsAt_cd4e5.data.toList.drop 31 = TJ2_putCharsAt_cd4e5_31 := dr1 DJ2_putCharsAt_cd4e5_30
theorem DJ2_putCharsAt_cd4e5_32 : cJ2_putCharsAt_cd4e5.data.toList.drop 32 = TJ2_putCharsAt_cd4e5_32 := dr1 DJ2_putCharsAt_cd4e5_31
theorem DJ2_putCharsAt_cd4e5_35 : cJ2_putCharsAt_cd4e5.data.toList.drop 35 = TJ2_putCharsAt_cd4e5_35 := dr3 DJ2_putCharsAt_cd4e5_32
theorem DJ2_putCharsAt_cd4e5_37 : cJ2_putCharsAt_cd4e5.data.toList.drop 37 = TJ2_putCharsAt_cd4e5_37 := dr2 DJ2_putCharsAt_cd4e5_35
theorem DJ2_putCharsAt_cd4e5_40 : cJ2_putCharsAt_cd4e5.data.toList.drop 40 = TJ2_putCharsAt_cd4e5_40 := dr3 DJ2_putCharsAt_cd4e5_37
theorem DJ2_putCharsAt_cd4e5_41 : cJ2_putCharsAt_cd4e5.data.toList.drop 41 = TJ2_putCharsAt_cd4e5_41 := dr1 DJ2_putCharsAt_cd4e5_40
theorem DJ2_putCharsAt_cd4e5_42 : cJ2_putCharsAt_cd4e5.data.toList.drop 42 = TJ2_putCharsAt_cd4e5_42 := dr1 DJ2_putCharsAt_cd4e5_41
theorem DJ2_putCharsAt_cd4e5_45 : cJ2_putCharsAt_cd4e5.data.toList.drop 45 = TJ2_putCharsAt_cd4e5_45 := dr3 DJ2_putCharsAt_cd4e5_42
theorem DJ2_putCharsAt_cd4e5_47 : cJ2_putCharsAt_cd4e5.data.toList.drop 47 = TJ2_putCharsAt_cd4e5_47 := dr2 DJ2_putCharsAt_cd4e5_45
theorem DJ2_putCharsAt_cd4e5_50 : cJ2_putCharsAt_cd4e5.data.toList.drop 50 = TJ2_putCharsAt_cd4e5_50 := dr3 DJ2_putCharsAt_cd4e5_47
theorem DJ2_putCharsAt_cd4e5_53 : cJ2_putCharsAt_cd4e5.data.toList.drop 53 = TJ2_putCharsAt_cd4e5_53 := dr3 DJ2_putCharsAt_cd4e5_50
theorem DJ2_putCharsAt_cd4e5_56 : cJ2_putCharsAt_cd4e5.data.toList.drop 56 = TJ2_putCharsAt_cd4e5_56 := dr3 DJ2_putCharsAt_cd4e5_53
theorem DJ2_putCharsAt_cd4e5_57 : cJ2_putCharsAt_cd4e5.data.toList.drop 57 = TJ2_putCharsAt_cd4e5_57 := dr1 DJ2_putCharsAt_cd4e5_56
theorem DJ2_putCharsAt_cd4e5_59 : cJ2_putCharsAt_cd4e5.data.toList.drop 59 = TJ2_putCharsAt_cd4e5_59 := dr2 DJ2_putCharsAt_cd4e5_57
theorem DJ2_putCharsAt_cd4e5_62 : cJ2_putCharsAt_cd4e5.data.toList.drop 62 = TJ2_putCharsAt_cd4e5_62 := dr3 DJ2_putCharsAt_cd4e5_59
theorem DJ2_putCharsAt_cd4e5_65 : cJ2_putCharsAt_cd4e5.data.toList.drop 65 = TJ2_putCharsAt_cd4e5_65 := dr3 DJ2_putCharsAt_cd4e5_62
theorem DJ2_putCharsAt_cd4e5_66 : cJ2_putCharsAt_cd4e5.data.toList.drop 66 = TJ2_putCharsAt_cd4e5_66 := dr1 DJ2_putCharsAt_cd4e5_65
theorem DJ2_putCharsAt_cd4e5_69 : cJ2_putCharsAt_cd4e5.data.toList.drop 69 = TJ2_putCharsAt_cd4e5_69 := dr3 DJ2_putCharsAt_cd4e5_66
theorem DJ2_putCharsAt_cd4e5_70 : cJ2_putCharsAt_cd4e5.data.toList.drop 70 = TJ2_putCharsAt_cd4e5_70 := dr1 DJ2_putCharsAt_cd4e5_69
theorem DJ2_putCharsAt_cd4e5_72 : cJ2_putCharsAt_cd4e5.data.toList.drop 72 = TJ2_putCharsAt_cd4e5_72 := dr2 DJ2_putCharsAt_cd4e5_70
theorem dJ2_putCharsAt_cd4e5_0 : decode cJ2_putCharsAt_cd4e5 0 = .ok (.iload_n 1, 1) := do_1b DJ2_putCharsAt_cd4e5_0
theorem dJ2_putCharsAt_cd4e5_1 : decode cJ2_putCharsAt_cd4e5 1 = .ok (.iconst 4, 1) := do_07 DJ2_putCharsAt_cd4e5_1
theorem dJ2_putCharsAt_cd4e5_2 : decode cJ2_putCharsAt_cd4e5 2 = .ok (.iadd, 1) := do_60 DJ2_putCharsAt_cd4e5_2
theorem dJ2_putCharsAt_cd4e5_3 : decode cJ2_putCharsAt_cd4e5 3 = .ok (.istore 6, 2) := do_36 DJ2_putCharsAt_cd4e5_3
theorem dJ2_putCharsAt_cd4e5_5 : decode cJ2_putCharsAt_cd4e5 5 = .ok (.iload_n 1, 1) := do_1b DJ2_putCharsAt_cd4e5_5
theorem dJ2_putCharsAt_cd4e5_6 : decode cJ2_putCharsAt_cd4e5 6 = .ok (.iload 6, 2) := do_15 DJ2_putCharsAt_cd4e5_6
theorem dJ2_putCharsAt_cd4e5_8 : decode cJ2_putCharsAt_cd4e5 8 = .ok (.aload_n 0, 1) := do_2a DJ2_putCharsAt_cd4e5_8
theorem dJ2_putCharsAt_cd4e5_9 : decode cJ2_putCharsAt_cd4e5 9 = .ok (.invokestatic 96, 3) := do_b8 DJ2_putCharsAt_cd4e5_9
theorem dJ2_putCharsAt_cd4e5_12 : decode cJ2_putCharsAt_cd4e5 12 = .ok (.aload_n 0, 1) := do_2a DJ2_putCharsAt_cd4e5_12
theorem dJ2_putCharsAt_cd4e5_13 : decode cJ2_putCharsAt_cd4e5 13 = .ok (.iload_n 1, 1) := do_1b DJ2_putCharsAt_cd4e5_13
theorem dJ2_putCharsAt_cd4e5_14 : decode cJ2_putCharsAt_cd4e5 14 = .ok (.iinc 1 1, 3) := do_84 DJ2_putCharsAt_cd4e5_14
theorem dJ2_putCharsAt_cd4e5_17 : decode cJ2_putCharsAt_cd4e5 17 = .ok (.iload_n 2, 1) := do_1c DJ2_putCharsAt_cd4e5_17
theorem dJ2_putCharsAt_cd4e5_18 : decode cJ2_putCharsAt_cd4e5 18 = .ok (.invokestatic 111, 3) := do_b8 DJ2_putCharsAt_cd4e5_18
theorem dJ2_putCharsAt_cd4e5_21 : decode cJ2_putCharsAt_cd4e5 21 = .ok (.aload_n 0, 1) := do_2a DJ2_putCharsAt_cd4e5_21
theorem dJ2_putCharsAt_cd4e5_22 : decode cJ2_putCharsAt_cd4e5 22 = .ok (.iload_n 1, 1) := do_1b DJ2_putCharsAt_cd4e5_22
theorem dJ2_putCharsAt_cd4e5_23 : decode cJ2_putCharsAt_cd4e5 23 = .ok (.iinc 1 1, 3) := do_84 DJ2_putCharsAt_cd4e5_23
theorem dJ2_putCharsAt_cd4e5_26 : decode cJ2_putCharsAt_cd4e5 26 = .ok (.iload_n 3, 1) := do_1d DJ2_putCharsAt_cd4e5_26
theorem dJ2_putCharsAt_cd4e5_27 : decode cJ2_putCharsAt_cd4e5 27 = .ok (.invokestatic 111, 3) := do_b8 DJ2_putCharsAt_cd4e5_27
theorem dJ2_putCharsAt_cd4e5_30 : decode cJ2_putCharsAt_cd4e5 30 = .ok (.aload_n 0, 1) := do_2a DJ2_putCharsAt_cd4e5_30
theorem dJ2_putCharsAt_cd4e5_31 : decode cJ2_putCharsAt_cd4e5 31 = .ok (.iload_n 1, 1) := do_1b DJ2_putCharsAt_cd4e5_31
theorem dJ2_putCharsAt_cd4e5_32 : decode cJ2_putCharsAt_cd4e5 32 = .ok (.iinc 1 1, 3) := do_84 DJ2_putCharsAt_cd4e5_32
theorem dJ2_putCharsAt_cd4e5_35 : decode cJ2_putCharsAt_cd4e5 35 = .ok (.iload 4, 2) := do_15 DJ2_putCharsAt_cd4e5_35
theorem dJ2_putCharsAt_cd4e5_37 : decode cJ2_putCharsAt_cd4e5 37 = .ok (.invokestatic 111, 3) := do_b8 DJ2_putCharsAt_cd4e5_37
theorem dJ2_putCharsAt_cd4e5_40 : decode cJ2_putCharsAt_cd4e5 40 = .ok (.aload_n 0, 1) := do_2a DJ2_putCharsAt_cd4e5_40
theorem dJ2_putCharsAt_cd4e5_41 : decode cJ2_putCharsAt_cd4e5 41 = .ok (.iload_n 1, 1) := do_1b DJ2_putCharsAt_cd4e5_41
theorem dJ2_putCharsAt_cd4e5_42 : decode cJ2_putCharsAt_cd4e5 42 = .ok (.iinc 1 1, 3) := do_84 DJ2_putCharsAt_cd4e5_42
theorem dJ2_putCharsAt_cd4e5_45 : decode cJ2_putCharsAt_cd4e5 45 = .ok (.iload 5, 2) := do_15 DJ2_putCharsAt_cd4e5_45
theorem dJ2_putCharsAt_cd4e5_47 : decode cJ2_putCharsAt_cd4e5 47 = .ok (.invokestatic 111, 3) := do_b8 DJ2_putCharsAt_cd4e5_47
theorem dJ2_putCharsAt_cd4e5_50 : decode cJ2_putCharsAt_cd4e5 50 = .ok (.getstatic 44, 3) := do_b2 DJ2_putCharsAt_cd4e5_50
theorem dJ2_putCharsAt_cd4e5_53 : decode cJ2_putCharsAt_cd4e5 53 = .ok (.ifCond .ne 17, 3) := do_9a DJ2_putCharsAt_cd4e5_53 (by decide +kernel)
theorem dJ2_putCharsAt_cd4e5_56 : decode cJ2_putCharsAt_cd4e5 56 = .ok (.iload_n 1, 1) := do_1b DJ2_putCharsAt_cd4e5_56
theorem dJ2_putCharsAt_cd4e5_57 : decode cJ2_putCharsAt_cd4e5 57 = .ok (.iload 6, 2) := do_15 DJ2_putCharsAt_cd4e5_57
theorem dJ2_putCharsAt_cd4e5_59 : decode cJ2_putCharsAt_cd4e5 59 = .ok (.if_icmp .eq 11, 3) := do_9f DJ2_putCharsAt_cd4e5_59 (by decide +kernel)
theorem dJ2_putCharsAt_cd4e5_62 : decode cJ2_putCharsAt_cd4e5 62 = .ok (.new 52, 3) := do_bb DJ2_putCharsAt_cd4e5_62
theorem dJ2_putCharsAt_cd4e5_65 : decode cJ2_putCharsAt_cd4e5 65 = .ok (.dup, 1) := do_59 DJ2_putCharsAt_cd4e5_65
theorem dJ2_putCharsAt_cd4e5_66 : decode cJ2_putCharsAt_cd4e5 66 = .ok (.invokespecial 66, 3) := do_b7 DJ2_putCharsAt_cd4e5_66
theorem dJ2_putCharsAt_cd4e5_69 : decode cJ2_putCharsAt_cd4e5 69 = .ok (.athrow, 1) := do_bf DJ2_putCharsAt_cd4e5_69
theorem dJ2_putCharsAt_cd4e5_70 : decode cJ2_putCharsAt_cd4e5 70 = .ok (.iload 6, 2) := do_15 DJ2_putCharsAt_cd4e5_70
theorem dJ2_putCharsAt_cd4e5_72 : decode cJ2_putCharsAt_cd4e5 72 = .ok (.ireturn, 1) := do_ac DJ2_putCharsAt_cd4e5_72
def TJ2_charAt_3b067_11 : List UInt8 := []
def TJ2_charAt_3b067_10 : List UInt8 := 172 :: TJ2_charAt_3b067_11
def TJ2_charAt_3b067_7 : List UInt8 := 184 :: 0 :: 71 :: TJ2_charAt_3b067_10
def TJ2_charAt_3b067_6 : List UInt8 := 27 :: TJ2_charAt_3b067_7
def TJ2_charAt_3b067_5 : List UInt8 := 42 :: TJ2_charAt_3b067_6
def TJ2_charAt_3b067_2 : List UInt8 := 184 :: 0 :: 67 :: TJ2_charAt_3b067_5
def TJ2_charAt_3b067_1 : List UInt8 := 42 :: TJ2_charAt_3b067_2
def TJ2_charAt_3b067_0 : List UInt8 := 27 :: TJ2_charAt_3b067_1
theorem DJ2_charAt_3b067_0 : cJ2_charAt_3b067.data.toList.drop 0 = TJ2_charAt_3b067_0 := by decide +kernel
theorem DJ2_charAt_3b067_1 : cJ2_charAt_3b067.data.toList.drop 1 = TJ2_charAt_3b067_1 := dr1 DJ2_charAt_3b067_0
theorem DJ2_charAt_3b067_2 : cJ2_charAt_3b067.data.toList.drop 2 = TJ2_charAt_3b067_2 := dr1 DJ2_charAt_3b067_1
theorem DJ2_charAt_3b067_5 : cJ2_charAt_3b067.data.toList.drop 5 = TJ2_charAt_3b067_5 := dr3 DJ2_charAt_3b067_2
theorem DJ2_charAt_3b067_6 : cJ2_charAt_3b067.data.toList.drop 6 = TJ2_charAt_3b067_6 := dr1 DJ2_charAt_3b067_5
theorem DJ2_charAt_3b067_7 : cJ2_charAt_3b067.data.toList.drop 7 = TJ2_charAt_3b067_7 := dr1 DJ2_charAt_3b067_6
theorem DJ2_charAt_3b067_10 : cJ2_charAt_3b067.data.toList.drop 10 = TJ2_charAt_3b067_10 := dr3 DJ2_charAt_3b067_7
theorem dJ2_charAt_3b067_0 : decode cJ2_charAt_3b067 0 = .ok (.iload_n 1, 1) := do_1b DJ2_charAt_3b067_0
theorem dJ2_charAt_3b067_1 : decode cJ2_charAt_3b067 1 = .ok (.aload_n 0, 1) := do_2a DJ2_charAt_3b067_1
theorem dJ2_charAt_3b067_2 : decode cJ2_charAt_3b067 2 = .ok (.invokestatic 67, 3) := do_b8 DJ2_charAt_3b067_2
theorem dJ2_charAt_3b067_5 : decode cJ2_charAt_3b067 5 = .ok (.aload_n 0, 1) := do_2a DJ2_charAt_3b067_5
theorem dJ2_charAt_3b067_6 : decode cJ2_charAt_3b067 6 = .ok (.iload_n 1, 1) := do_1b DJ2_charAt_3b067_6
theorem dJ2_charAt_3b067_7 : decode cJ2_charAt_3b067 7 = .ok (.invokestatic 71, 3) := do_b8 DJ2_charAt_3b067_7
theorem dJ2_charAt_3b067_10 : decode cJ2_charAt_3b067 10 = .ok (.ireturn, 1) := do_ac DJ2_charAt_3b067_10
def TJ2_reverse_db04f_95 : List UInt8 := []
def TJ2_reverse_db04f_94 : List UInt8 := 177 :: TJ2_reverse_db04f_95
def TJ2_reverse_db04f_91 : List UInt8 := 184 :: 1 :: 143 :: TJ2_reverse_db04f_94
def TJ2_reverse_db04f_90 : List UInt8 := 27 :: TJ2_reverse_db04f_91
def TJ2_reverse_db04f_89 : List UInt8 := 42 :: TJ2_reverse_db04f_90
def TJ2_reverse_db04f_86 : List UInt8 := 153 :: 0 :: 8 :: TJ2_reverse_db04f_89
def TJ2_reverse_db04f_85 : List UInt8 := 29 :: TJ2_reverse_db04f_86
def TJ2_reverse_db04f_82 : List UInt8 := 167 :: 255 :: 192 :: TJ2_reverse_db04f_85
def TJ2_reverse_db04f_79 : List UInt8 := 132 :: 4 :: 255 :: TJ2_reverse_db04f_82
def TJ2_reverse_db04f_78 : List UInt8 := 62 :: TJ2_reverse_db04f_79
def TJ2_reverse_db04f_77 : List UInt8 := 4 :: TJ2_reverse_db04f_78
def TJ2_reverse_db04f_74 : List UInt8 := 153 :: 0 :: 5 :: TJ2_reverse_db04f_77
def TJ2_reverse_db04f_71 : List UInt8 := 184 :: 0 :: 212 :: TJ2_reverse_db04f_74
def TJ2_reverse_db04f_69 : List UInt8 := 21 :: 7 :: TJ2_reverse_db04f_71
def TJ2_reverse_db04f_66 : List UInt8 := 154 :: 0 :: 11 :: TJ2_reverse_db04f_69
def TJ2_reverse_db04f_63 : List UInt8 := 184 :: 0 :: 212 :: TJ2_reverse_db04f_66
def TJ2_reverse_db04f_61 : List UInt8 := 21 :: 6 :: TJ2_reverse_db04f_63
def TJ2_reverse_db04f_58 : List UInt8 := 184 :: 0 :: 111 :: TJ2_reverse_db04f_61
def TJ2_reverse_db04f_56 : List UInt8 := 21 :: 6 :: TJ2_reverse_db04f_58
def TJ2_reverse_db04f_54 : List UInt8 := 21 :: 5 :: TJ2_reverse_db04f_56
def TJ2_reverse_db04f_53 : List UInt8 := 42 :: TJ2_reverse_db04f_54
def TJ2_reverse_db04f_50 : List UInt8 := 184 :: 0 :: 111 :: TJ2_reverse_db04f_53
def TJ2_reverse_db04f_48 : List UInt8 := 21 :: 7 :: TJ2_reverse_db04f_50
def TJ2_reverse_db04f_46 : List UInt8 := 21 :: 4 :: TJ2_reverse_db04f_48
def TJ2_reverse_db04f_45 : List UInt8 := 42 :: TJ2_reverse_db04f_46
def TJ2_reverse_db04f_43 : List UInt8 := 54 :: 7 :: TJ2_reverse_db04f_45
def TJ2_reverse_db04f_40 : List UInt8 := 184 :: 0 :: 71 :: TJ2_reverse_db04f_43
def TJ2_reverse_db04f_38 : List UInt8 := 21 :: 5 :: TJ2_reverse_db04f_40
def TJ2_reverse_db04f_37 : List UInt8 := 42 :: TJ2_reverse_db04f_38
def TJ2_reverse_db04f_35 : List UInt8 := 54 :: 6 :: TJ2_reverse_db04f_37
def TJ2_reverse_db04f_32 : List UInt8 := 184 :: 0 :: 71 :: TJ2_reverse_db04f_35
def TJ2_reverse_db04f_30 : List UInt8 := 21 :: 4 :: TJ2_reverse_db04f_32
def TJ2_reverse_db04f_29 : List UInt8 := 42 :: TJ2_reverse_db04f_30
def TJ2_reverse_db04f_27 : List UInt8 := 54 :: 5 :: TJ2_reverse_db04f_29
def TJ2_reverse_db04f_26 : List UInt8 := 100 :: TJ2_reverse_db04f_27
def TJ2_reverse_db04f_24 : List UInt8 := 21 :: 4 :: TJ2_reverse_db04f_26
def TJ2_reverse_db04f_23 : List UInt8 := 28 :: TJ2_reverse_db04f_24
def TJ2_reverse_db04f_20 : List UInt8 := 155 :: 0 :: 65 :: TJ2_reverse_db04f_23
def TJ2_reverse_db04f_18 : List UInt8 := 21 :: 4 :: TJ2_reverse_db04f_20
def TJ2_reverse_db04f_16 : List UInt8 := 54 :: 4 :: TJ2_reverse_db04f_18
def TJ2_reverse_db04f_15 : List UInt8 := 122 :: TJ2_reverse_db04f_16
def TJ2_reverse_db04f_14 : List UInt8 := 4 :: TJ2_reverse_db04f_15
def TJ2_reverse_db04f_13 : List UInt8 := 100 :: TJ2_reverse_db04f_14
def TJ2_reverse_db04f_12 : List UInt8 := 4 :: TJ2_reverse_db04f_13
def TJ2_reverse_db04f_11 : List UInt8 := 28 :: TJ2_reverse_db04f_12
def TJ2_reverse_db04f_10 : List UInt8 := 62 :: TJ2_reverse_db04f_11
def TJ2_reverse_db04f_9 : List UInt8 := 3 :: TJ2_reverse_db04f_10
def TJ2_reverse_db04f_8 : List UInt8 := 61 :: TJ2_reverse_db04f_9
def TJ2_reverse_db04f_7 : List UInt8 := 100 :: TJ2_reverse_db04f_8
def TJ2_reverse_db04f_6 : List UInt8 := 4 :: TJ2_reverse_db04f_7
def TJ2_reverse_db04f_5 : List UInt8 := 27 :: TJ2_reverse_db04f_6
def TJ2_reverse_db04f_2 : List UInt8 := 184 :: 0 :: 180 :: TJ2_reverse_db04f_5
def TJ2_reverse_db04f_1 : List UInt8 := 42 :: TJ2_reverse_db04f_2
def TJ2_reverse_db04f_0 : List UInt8 := 27 :: TJ2_reverse_db04f_1
theorem DJ2_reverse_db04f_0 : cJ2_reverse_db04f.data.toList.drop 0 = TJ2_reverse_db04f_0 := by decide +kernel
theorem DJ2_reverse_db04f_1 : cJ2_reverse_db04f.data.toList.drop 1 = TJ2_reverse_db04f_1 := dr1 DJ2_reverse_db04f_0
theorem DJ2_reverse_db04f_2 : cJ2_reverse_db04f.data.toList.drop 2 = TJ2_reverse_db04f_2 := dr1 DJ2_reverse_db04f_1
theorem DJ2_reverse_db04f_5 : cJ2_reverse_db04f.data.toList.drop 5 = TJ2_reverse_db04f_5 := dr3 DJ2_reverse_db04f_2
theorem DJ2_reverse_db04f_6 : cJ2_reverse_db04f.data.toList.drop 6 = TJ2_reverse_db04f_6 := dr1 DJ2_reverse_db04f_5
theorem DJ2_reverse_db04f_7 : cJ2_reverse_db04f.data.toList.drop 7 = TJ2_reverse_db04f_7 := dr1 DJ2_reverse_db04f_6
theorem DJ2_reverse_db04f_8 : cJ2_reverse_db04f.data.toList.drop 8 = TJ2_reverse_db04f_8 := dr1 DJ2_reverse_db04f_7
theorem DJ2_reverse_db04f_9 : cJ2_reverse_db04f.data.toList.drop 9 = TJ2_reverse_db04f_9 := dr1 DJ2_reverse_db04f_8
theorem DJ2_reverse_db04f_10 : cJ2_reverse_db04f.data.toList.drop 10 = TJ2_reverse_db04f_10 := dr1 DJ2_reverse_db04f_9
theorem DJ2_reverse_db04f_11 : cJ2_reverse_db04f.data.toList.drop 11 = TJ2_reverse_db04f_11 := dr1 DJ2_reverse_db04f_10
theorem DJ2_reverse_db04f_12 : cJ2_reverse_db04f.data.toList.drop 12 = TJ2_reverse_db04f_12 := dr1 DJ2_reverse_db04f_11
theorem DJ2_reverse_db04f_13 : cJ2_reverse_db04f.data.toList.drop 13 = TJ2_reverse_db04f_13 := dr1 DJ2_reverse_db04f_12
theorem DJ2_reverse_db04f_14 : cJ2_reverse_db04f.data.toList.drop 14 = TJ2_reverse_db04f_14 := dr1 DJ2_reverse_db04f_13
theorem DJ2_reverse_db04f_15 : cJ2_reverse_db04f.data.toList.drop 15 = TJ2_reverse_db04f_15 := dr1 DJ2_reverse_db04f_14
theorem DJ2_reverse_db04f_16 : cJ2_reverse_db04f.data.toList.drop 16 = TJ2_reverse_db04f_16 := dr1 DJ2_reverse_db04f_15
theorem DJ2_reverse_db04f_18 : cJ2_reverse_db04f.data.toList.drop 18 = TJ2_reverse_db04f_18 := dr2 DJ2_reverse_db04f_16
theorem DJ2_reverse_db04f_20 : cJ2_reverse_db04f.data.toList.drop 20 = TJ2_reverse_db04f_20 := dr2 DJ2_reverse_db04f_18
theorem DJ2_reverse_db04f_23 : cJ2_reverse_db04f.data.toList.drop 23 = TJ2_reverse_db04f_23 := dr3 DJ2_reverse_db04f_20
theorem DJ2_reverse_db04f_24 : cJ2_reverse_db04f.data.toList.drop 24 = TJ2_reverse_db04f_24 := dr1 DJ2_reverse_db04f_23
theorem DJ2_reverse_db04f_26 : cJ2_reverse_db04f.data.toList.drop 26 = TJ2_reverse_db04f_26 := dr2 DJ2_reverse_db04f_24
theorem DJ2_reverse_db04f_27 : cJ2_reverse_db04f.data.toList.drop 27 = TJ2_reverse_db04f_27 := dr1 DJ2_reverse_db04f_26
theorem DJ2_reverse_db04f_29 : cJ2_reverse_db04f.data.toList.drop 29 = TJ2_reverse_db04f_29 := dr2 DJ2_reverse_db04f_27
theorem DJ2_reverse_db04f_30 : cJ2_reverse_db04f.data.toList.drop 30 = TJ2_reverse_db04f_30 := dr1 DJ2_reverse_db04f_29
theorem DJ2_reverse_db04f_32 : cJ2_reverse_db04f.data.toList.drop 32 = TJ2_reverse_db04f_32 := dr2 DJ2_reverse_db04f_30
theorem DJ2_reverse_db04f_35 : cJ2_reverse_db04f.data.toList.drop 35 = TJ2_reverse_db04f_35 := dr3 DJ2_reverse_db04f_32
theorem DJ2_reverse_db04f_37 : cJ2_reverse_db04f.data.toList.drop 37 = TJ2_reverse_db04f_37 := dr2 DJ2_reverse_db04f_35
theorem DJ2_reverse_db04f_38 : cJ2_reverse_db04f.data.toList.drop 38 = TJ2_reverse_db04f_38 := dr1 DJ2_reverse_db04f_37
theorem DJ2_reverse_db04f_40 : cJ2_reverse_db04f.data.toList.drop 40 = TJ2_reverse_db04f_40 := dr2 DJ2_reverse_db04f_38
theorem DJ2_reverse_db04f_43 : cJ2_reverse_db04f.data.toList.drop 43 = TJ2_reverse_db04f_43 := dr3 DJ2_reverse_db04f_40
theorem DJ2_reverse_db04f_45 : cJ2_reverse_db04f.data.toList.drop 45 = TJ2_reverse_db04f_45 := dr2 DJ2_reverse_db04f_43
theorem DJ2_reverse_db04f_46 : cJ2_reverse_db04f.data.toList.drop 46 = TJ2_reverse_db04f_46 := dr1 DJ2_reverse_db04f_45
theorem DJ2_reverse_db04f_48 : cJ2_reverse_db04f.data.toList.drop 48 = TJ2_reverse_db04f_48 := dr2 DJ2_reverse_db04f_46
theorem DJ2_reverse_db04f_50 : cJ2_reverse_db04f.data.toList.drop 50 = TJ2_reverse_db04f_50 := dr2 DJ2_reverse_db04f_48
theorem DJ2_reverse_db04f_53 : cJ2_reverse_db04f.data.toList.drop 53 = TJ2_reverse_db04f_53 := dr3 DJ2_reverse_db04f_50
theorem DJ2_reverse_db04f_54 : cJ2_reverse_db04f.data.toList.drop 54 = TJ2_reverse_db04f_54 := dr1 DJ2_reverse_db04f_53
theorem DJ2_reverse_db04f_56 : cJ2_reverse_db04f.data.toList.drop 56 = TJ2_reverse_db04f_56 := dr2 DJ2_reverse_db04f_54
theorem DJ2_reverse_db04f_58 : cJ2_reverse_db04f.data.toList.drop 58 = TJ2_reverse_db04f_58 := dr2 DJ2_reverse_db04f_56
theorem DJ2_reverse_db04f_61 : cJ2_reverse_db04f.data.toList.drop 61 = TJ2_reverse_db04f_61 := dr3 DJ2_reverse_db04f_58
theorem DJ2_reverse_db04f_63 : cJ2_reverse_db04f.data.toList.drop 63 = TJ2_reverse_db04f_63 := dr2 DJ2_reverse_db04f_61
theorem DJ2_reverse_db04f_66 : cJ2_reverse_db04f.data.toList.drop 66 = TJ2_reverse_db04f_66 := dr3 DJ2_reverse_db04f_63
theorem DJ2_reverse_db04f_69 : cJ2_reverse_db04f.data.toList.drop 69 = TJ2_reverse_db04f_69 := dr3 DJ2_reverse_db04f_66
theorem DJ2_reverse_db04f_71 : cJ2_reverse_db04f.data.toList.drop 71 = TJ2_reverse_db04f_71 := dr2 DJ2_reverse_db04f_69
theorem DJ2_reverse_db04f_74 : cJ2_reverse_db04f.data.toList.drop 74 = TJ2_reverse_db04f_74 := dr3 DJ2_reverse_db04f_71
theorem DJ2_reverse_db04f_77 : cJ2_reverse_db04f.data.toList.drop 77 = TJ2_reverse_db04f_77 := dr3 DJ2_reverse_db04f_74
theorem DJ2_reverse_db04f_78 : cJ2_reverse_db04f.data.toList.drop 78 = TJ2_reverse_db04f_78 := dr1 DJ2_reverse_db04f_77
theorem DJ2_reverse_db04f_79 : cJ2_reverse_db04f.data.toList.drop 79 = TJ2_reverse_db04f_79 := dr1 DJ2_reverse_db04f_78
theorem DJ2_reverse_db04f_82 : cJ2_reverse_db04f.data.toList.drop 82 = TJ2_reverse_db04f_82 := dr3 DJ2_reverse_db04f_79
theorem DJ2_reverse_db04f_85 : cJ2_reverse_db04f.data.toList.drop 85 = TJ2_reverse_db04f_85 := dr3 DJ2_reverse_db04f_82
theorem DJ2_reverse_db04f_86 : cJ2_reverse_db04f.data.toList.drop 86 = TJ2_reverse_db04f_86 := dr1 DJ2_reverse_db04f_85
theorem DJ2_reverse_db04f_89 : cJ2_reverse_db04f.data.toList.drop 89 = TJ2_reverse_db04f_89 := dr3 DJ2_reverse_db04f_86
theorem DJ2_reverse_db04f_90 : cJ2_reverse_db04f.data.toList.drop 90 = TJ2_reverse_db04f_90 := dr1 DJ2_reverse_db04f_89
theorem DJ2_reverse_db04f_91 : cJ2_reverse_db04f.data.toList.drop 91 = TJ2_reverse_db04f_91 := dr1 DJ2_reverse_db04f_90
theorem DJ2_reverse_db04f_94 : cJ2_reverse_db04f.data.toList.drop 94 = TJ2_reverse_db04f_94 := dr3 DJ2_reverse_db04f_91
theorem dJ2_reverse_db04f_0 : decode cJ2_reverse_db04f 0 = .ok (.iload_n 1, 1) := do_1b DJ2_reverse_db04f_0
theorem dJ2_reverse_db04f_1 : decode cJ2_reverse_db04f 1 = .ok (.aload_n 0, 1) := do_2a DJ2_reverse_db04f_1
theorem dJ2_reverse_db04f_2 : decode cJ2_reverse_db04f 2 = .ok (.invokestatic 180, 3) := do_b8 DJ2_reverse_db04f_2
theorem dJ2_reverse_db04f_5 : decode cJ2_reverse_db04f 5 = .ok (.iload_n 1, 1) := do_1b DJ2_reverse_db04f_5
theorem dJ2_reverse_db04f_6 : decode cJ2_reverse_db04f 6 = .ok (.iconst 1, 1) := do_04 DJ2_reverse_db04f_6
theorem dJ2_reverse_db04f_7 : decode cJ2_reverse_db04f 7 = .ok (.isub, 1) := do_64 DJ2_reverse_db04f_7
theorem dJ2_reverse_db04f_8 : decode cJ2_reverse_db04f 8 = .ok (.istore_n 2, 1) := do_3d DJ2_reverse_db04f_8
theorem dJ2_reverse_db04f_9 : decode cJ2_reverse_db04f 9 = .ok (.iconst 0, 1) := do_03 DJ2_reverse_db04f_9
theorem dJ2_reverse_db04f_10 : decode cJ2_reverse_db04f 10 = .ok (.istore_n 3, 1) := do_3e DJ2_reverse_db04f_10
theorem dJ2_reverse_db04f_11 : decode cJ2_reverse_db04f 11 = .ok (.iload_n 2, 1) := do_1c DJ2_reverse_db04f_11
theorem dJ2_reverse_db04f_12 : decode cJ2_reverse_db04f 12 = .ok (.iconst 1, 1) := do_04 DJ2_reverse_db04f_12
theorem dJ2_reverse_db04f_13 : decode cJ2_reverse_db04f 13 = .ok (.isub, 1) := do_64 DJ2_reverse_db04f_13
theorem dJ2_reverse_db04f_14 : decode cJ2_reverse_db04f 14 = .ok (.iconst 1, 1) := do_04 DJ2_reverse_db04f_14
theorem dJ2_reverse_db04f_15 : decode cJ2_reverse_db04f 15 = .ok (.ishr, 1) := do_7a DJ2_reverse_db04f_15
theorem dJ2_reverse_db04f_16 : decode cJ2_reverse_db04f 16 = .ok (.istore 4, 2) := do_36 DJ2_reverse_db04f_16
theorem dJ2_reverse_db04f_18 : decode cJ2_reverse_db04f 18 = .ok (.iload 4, 2) := do_15 DJ2_reverse_db04f_18
theorem dJ2_reverse_db04f_20 : decode cJ2_reverse_db04f 20 = .ok (.ifCond .lt 65, 3) := do_9b DJ2_reverse_db04f_20 (by decide +kernel)
theorem dJ2_reverse_db04f_23 : decode cJ2_reverse_db04f 23 = .ok (.iload_n 2, 1) := do_1c DJ2_reverse_db04f_23
theorem dJ2_reverse_db04f_24 : decode cJ2_reverse_db04f 24 = .ok (.iload 4, 2) := do_15 DJ2_reverse_db04f_24
theorem dJ2_reverse_db04f_26 : decode cJ2_reverse_db04f 26 = .ok (.isub, 1) := do_64 DJ2_reverse_db04f_26
theorem dJ2_reverse_db04f_27 : decode cJ2_reverse_db04f 27 = .ok (.istore 5, 2) := do_36 DJ2_reverse_db04f_27
theorem dJ2_reverse_db04f_29 : decode cJ2_reverse_db04f 29 = .ok (.aload_n 0, 1) := do_2a DJ2_reverse_db04f_29
theorem dJ2_reverse_db04f_30 : decode cJ2_reverse_db04f 30 = .ok (.iload 4, 2) := do_15 DJ2_reverse_db04f_30
theorem dJ2_reverse_db04f_32 : decode cJ2_reverse_db04f 32 = .ok (.invokestatic 71, 3) := do_b8 DJ2_reverse_db04f_32
theorem dJ2_reverse_db04f_35 : decode cJ2_reverse_db04f 35 = .ok (.istore 6, 2) := do_36 DJ2_reverse_db04f_35
theorem dJ2_reverse_db04f_37 : decode cJ2_reverse_db04f 37 = .ok (.aload_n 0, 1) := do_2a DJ2_reverse_db04f_37
theorem dJ2_reverse_db04f_38 : decode cJ2_reverse_db04f 38 = .ok (.iload 5, 2) := do_15 DJ2_reverse_db04f_38
theorem dJ2_reverse_db04f_40 : decode cJ2_reverse_db04f 40 = .ok (.invokestatic 71, 3) := do_b8 DJ2_reverse_db04f_40
theorem dJ2_reverse_db04f_43 : decode cJ2_reverse_db04f 43 = .ok (.istore 7, 2) := do_36 DJ2_reverse_db04f_43
theorem dJ2_reverse_db04f_45 : decode cJ2_reverse_db04f 45 = .ok (.aload_n 0, 1) := do_2a DJ2_reverse_db04f_45
theorem dJ2_reverse_db04f_46 : decode cJ2_reverse_db04f 46 = .ok (.iload 4, 2) := do_15 DJ2_reverse_db04f_46
theorem dJ2_reverse_db04f_48 : decode cJ2_reverse_db04f 48 = .ok (.iload 7, 2) := do_15 DJ2_reverse_db04f_48
theorem dJ2_reverse_db04f_50 : decode cJ2_reverse_db04f 50 = .ok (.invokestatic 111, 3) := do_b8 DJ2_reverse_db04f_50
theorem dJ2_reverse_db04f_53 : decode cJ2_reverse_db04f 53 = .ok (.aload_n 0, 1) := do_2a DJ2_reverse_db04f_53
theorem dJ2_reverse_db04f_54 : decode cJ2_reverse_db04f 54 = .ok (.iload 5, 2) := do_15 DJ2_reverse_db04f_54
theorem dJ2_reverse_db04f_56 : decode cJ2_reverse_db04f 56 = .ok (.iload 6, 2) := do_15 DJ2_reverse_db04f_56
theorem dJ2_reverse_db04f_58 : decode cJ2_reverse_db04f 58 = .ok (.invokestatic 111, 3) := do_b8 DJ2_reverse_db04f_58
theorem dJ2_reverse_db04f_61 : decode cJ2_reverse_db04f 61 = .ok (.iload 6, 2) := do_15 DJ2_reverse_db04f_61
theorem dJ2_reverse_db04f_63 : decode cJ2_reverse_db04f 63 = .ok (.invokestatic 212, 3) := do_b8 DJ2_reverse_db04f_63
theorem dJ2_reverse_db04f_66 : decode cJ2_reverse_db04f 66 = .ok (.ifCond .ne 11, 3) := do_9a DJ2_reverse_db04f_66 (by decide +kernel)
theorem dJ2_reverse_db04f_69 : decode cJ2_reverse_db04f 69 = .ok (.iload 7, 2) := do_15 DJ2_reverse_db04f_69
theorem dJ2_reverse_db04f_71 : decode cJ2_reverse_db04f 71 = .ok (.invokestatic 212, 3) := do_b8 DJ2_reverse_db04f_71
theorem dJ2_reverse_db04f_74 : decode cJ2_reverse_db04f 74 = .ok (.ifCond .eq 5, 3) := do_99 DJ2_reverse_db04f_74 (by decide +kernel)
theorem dJ2_reverse_db04f_77 : decode cJ2_reverse_db04f 77 = .ok (.iconst 1, 1) := do_04 DJ2_reverse_db04f_77
theorem dJ2_reverse_db04f_78 : decode cJ2_reverse_db04f 78 = .ok (.istore_n 3, 1) := do_3e DJ2_reverse_db04f_78
theorem dJ2_reverse_db04f_79 : decode cJ2_reverse_db04f 79 = .ok (.iinc 4 (-1), 3) := do_84 DJ2_reverse_db04f_79
theorem dJ2_reverse_db04f_82 : decode cJ2_reverse_db04f 82 = .ok (.goto (-64), 3) := do_a7 DJ2_reverse_db04f_82 (by decide +kernel)
theorem dJ2_reverse_db04f_85 : decode cJ2_reverse_db04f 85 = .ok (.iload_n 3, 1) := do_1d DJ2_reverse_db04f_85
theorem dJ2_reverse_db04f_86 : decode cJ2_reverse_db04f 86 = .ok (.ifCond .eq 8, 3) := do_99 DJ2_reverse_db04f_86 (by decide +kernel)
theorem dJ2_reverse_db04f_89 : decode cJ2_reverse_db04f 89 = .ok (.aload_n 0, 1) := do_2a DJ2_reverse_db04f_89
theorem dJ2_reverse_db04f_90 : decode cJ2_reverse_db04f 90 = .ok (.iload_n 1, 1) := do_1b DJ2_reverse_db04f_90
theorem dJ2_reverse_db04f_91 : decode cJ2_reverse_db04f 91 = .ok (.invokestatic 399, 3) := do_b8 DJ2_reverse_db04f_91
theorem dJ2_reverse_db04f_94 : decode cJ2_reverse_db04f 94 = .ok (.return_, 1) := do_b1 DJ2_reverse_db04f_94
def TJ2_reverseAllValidSurrogatePairs_db04f_62 : List UInt8 := []
def TJ2_reverseAllValidSurrogatePairs_db04f_61 : List UInt8 := 177 :: TJ2_reverseAllValidSurrogatePairs_db04f_62
def TJ2_reverseAllValidSurrogatePairs_db04f_58 : List UInt8 := 167 :: 255 :: 200 :: TJ2_reverseAllValidSurrogatePairs_db04f_61
def TJ2_reverseAllValidSurrogatePairs_db04f_55 : List UInt8 := 132 :: 2 :: 1 :: TJ2_reverseAllValidSurrogatePairs_db04f_58
def TJ2_reverseAllValidSurrogatePairs_db04f_52 : List UInt8 := 184 :: 0 :: 111 :: TJ2_reverseAllValidSurrogatePairs_db04f_55
def TJ2_reverseAllValidSurrogatePairs_db04f_51 : List UInt8 := 29 :: TJ2_reverseAllValidSurrogatePairs_db04f_52
def TJ2_reverseAllValidSurrogatePairs_db04f_50 : List UInt8 := 28 :: TJ2_reverseAllValidSurrogatePairs_db04f_51
def TJ2_reverseAllValidSurrogatePairs_db04f_49 : List UInt8 := 42 :: TJ2_reverseAllValidSurrogatePairs_db04f_50
def TJ2_reverseAllValidSurrogatePairs_db04f_46 : List UInt8 := 184 :: 0 :: 111 :: TJ2_reverseAllValidSurrogatePairs_db04f_49
def TJ2_reverseAllValidSurrogatePairs_db04f_44 : List UInt8 := 21 :: 4 :: TJ2_reverseAllValidSurrogatePairs_db04f_46
def TJ2_reverseAllValidSurrogatePairs_db04f_41 : List UInt8 := 132 :: 2 :: 1 :: TJ2_reverseAllValidSurrogatePairs_db04f_44
def TJ2_reverseAllValidSurrogatePairs_db04f_40 : List UInt8 := 28 :: TJ2_reverseAllValidSurrogatePairs_db04f_41
def TJ2_reverseAllValidSurrogatePairs_db04f_39 : List UInt8 := 42 :: TJ2_reverseAllValidSurrogatePairs_db04f_40
def TJ2_reverseAllValidSurrogatePairs_db04f_36 : List UInt8 := 153 :: 0 :: 19 :: TJ2_reverseAllValidSurrogatePairs_db04f_39
def TJ2_reverseAllValidSurrogatePairs_db04f_33 : List UInt8 := 184 :: 0 :: 75 :: TJ2_reverseAllValidSurrogatePairs_db04f_36
def TJ2_reverseAllValidSurrogatePairs_db04f_31 : List UInt8 := 21 :: 4 :: TJ2_reverseAllValidSurrogatePairs_db04f_33
def TJ2_reverseAllValidSurrogatePairs_db04f_29 : List UInt8 := 54 :: 4 :: TJ2_reverseAllValidSurrogatePairs_db04f_31
def TJ2_reverseAllValidSurrogatePairs_db04f_26 : List UInt8 := 184 :: 0 :: 71 :: TJ2_reverseAllValidSurrogatePairs_db04f_29
def TJ2_reverseAllValidSurrogatePairs_db04f_25 : List UInt8 := 96 :: TJ2_reverseAllValidSurrogatePairs_db04f_26
def TJ2_reverseAllValidSurrogatePairs_db04f_24 : List UInt8 := 4 :: TJ2_reverseAllValidSurrogatePairs_db04f_25
def TJ2_reverseAllValidSurrogatePairs_db04f_23 : List UInt8 := 28 :: TJ2_reverseAllValidSurrogatePairs_db04f_24
def TJ2_reverseAllValidSurrogatePairs_db04f_22 : List UInt8 := 42 :: TJ2_reverseAllValidSurrogatePairs_db04f_23
def TJ2_reverseAllValidSurrogatePairs_db04f_19 : List UInt8 := 153 :: 0 :: 36 :: TJ2_reverseAllValidSurrogatePairs_db04f_22
def TJ2_reverseAllValidSurrogatePairs_db04f_16 : List UInt8 := 184 :: 0 :: 81 :: TJ2_reverseAllValidSurrogatePairs_db04f_19
def TJ2_reverseAllValidSurrogatePairs_db04f_15 : List UInt8 := 29 :: TJ2_reverseAllValidSurrogatePairs_db04f_16
def TJ2_reverseAllValidSurrogatePairs_db04f_14 : List UInt8 := 62 :: TJ2_reverseAllValidSurrogatePairs_db04f_15
def TJ2_reverseAllValidSurrogatePairs_db04f_11 : List UInt8 := 184 :: 0 :: 71 :: TJ2_reverseAllValidSurrogatePairs_db04f_14
def TJ2_reverseAllValidSurrogatePairs_db04f_10 : List UInt8 := 28 :: TJ2_reverseAllValidSurrogatePairs_db04f_11
def TJ2_reverseAllValidSurrogatePairs_db04f_9 : List UInt8 := 42 :: TJ2_reverseAllValidSurrogatePairs_db04f_10
def TJ2_reverseAllValidSurrogatePairs_db04f_6 : List UInt8 := 162 :: 0 :: 55 :: TJ2_reverseAllValidSurrogatePairs_db04f_9
def TJ2_reverseAllValidSurrogatePairs_db04f_5 : List UInt8 := 100 :: TJ2_reverseAllValidSurrogatePairs_db04f_6
def TJ2_reverseAllValidSurrogatePairs_db04f_4 : List UInt8 := 4 :: TJ2_reverseAllValidSurrogatePairs_db04f_5
def TJ2_reverseAllValidSurrogatePairs_db04f_3 : List UInt8 := 27 :: TJ2_reverseAllValidSurrogatePairs_db04f_4
def TJ2_reverseAllValidSurrogatePairs_db04f_2 : List UInt8 := 28 :: TJ2_reverseAllValidSurrogatePairs_db04f_3
def TJ2_reverseAllValidSurrogatePairs_db04f_1 : List UInt8 := 61 :: TJ2_reverseAllValidSurrogatePairs_db04f_2
def TJ2_reverseAllValidSurrogatePairs_db04f_0 : List UInt8 := 3 :: TJ2_reverseAllValidSurrogatePairs_db04f_1
theorem DJ2_reverseAllValidSurrogatePairs_db04f_0 : cJ2_reverseAllValidSurrogatePairs_db04f.data.toList.drop 0 = TJ2_reverseAllValidSurrogatePairs_db04f_0 := by decide +kernel
theorem DJ2_reverseAllValidSurrogatePairs_db04f_1 : cJ2_reverseAllValidSurrogatePairs_db04f.data.toList.drop 1 = TJ2_reverseAllValidSurrogatePairs_db04f_1 := dr1 DJ2_reverseAllValidSurrogatePairs_db04f_0
theorem DJ2_reverseAllValidSurrogatePairs_db04f_2 : cJ2_reverseAllValidSurrogatePairs_db04f.data.toList.drop 2 = TJ2_reverseAllValidSurrogatePairs_db04f_2 := dr1 DJ2_reverseAllValidSurrogatePairs_db04f_1
theorem DJ2_reverseAllValidSurrogatePairs_db04f_3 : cJ2_reverseAllValidSurrogatePairs_db04f.data.toList.drop 3 = TJ2_reverseAllValidSurrogatePairs_db04f_3 := dr1 DJ2_reverseAllValidSurrogatePairs_db04f_2
theorem DJ2_reverseAllValidSurrogatePairs_db04f_4 : cJ2_reverseAllValidSurrogatePairs_db04f.data.toList.drop 4 = TJ2_reverseAllValidSurrogatePairs_db04f_4 := dr1 DJ2_reverseAllValidSurrogatePairs_db04f_3
theorem DJ2_reverseAllValidSurrogatePairs_db04f_5 : cJ2_reverseAllValidSurrogatePairs_db04f.data.toList.drop 5 = TJ2_reverseAllValidSurrogatePairs_db04f_5 := dr1 DJ2_reverseAllValidSurrogatePairs_db04f_4
theorem DJ2_reverseAllValidSurrogatePairs_db04f_6 : cJ2_reverseAllValidSurrogatePairs_db04f.data.toList.drop 6 = TJ2_reverseAllValidSurrogatePairs_db04f_6 := dr1 DJ2_reverseAllValidSurrogatePairs_db04f_5
theorem DJ2_reverseAllValidSurrogatePairs_db04f_9 : cJ2_reverseAllValidSurrogatePairs_db04f.data.toList.drop 9 = TJ2_reverseAllValidSurrogatePairs_db04f_9 := dr3 DJ2_reverseAllValidSurrogatePairs_db04f_6
theorem DJ2_reverseAllValidSurrogatePairs_db04f_10 : cJ2_reverseAllValidSurrogatePairs_db04f.data.toList.drop 10 = TJ2_reverseAllValidSurrogatePairs_db04f_10 := dr1 DJ2_reverseAllValidSurrogatePairs_db04f_9
theorem DJ2_reverseAllValidSurrogatePairs_db04f_11 : cJ2_reverseAllValidSurrogatePairs_db04f.data.toList.drop 11 = TJ2_reverseAllValidSurrogatePairs_db04f_11 := dr1 DJ2_reverseAllValidSurrogatePairs_db04f_10
theorem DJ2_reverseAllValidSurrogatePairs_db04f_14 : cJ2_reverseAllValidSurrogatePairs_db04f.data.toList.drop 14 = TJ2_reverseAllValidSurrogatePairs_db04f_14 := dr3 DJ2_reverseAllValidSurrogatePairs_db04f_11
theorem DJ2_reverseAllValidSurrogatePairs_db04f_15 : cJ2_reverseAllValidSurrogatePairs_db04f.data.toList.drop 15 = TJ2_reverseAllValidSurrogatePairs_db04f_15 := dr1 DJ2_reverseAllValidSurrogatePairs_db04f_14
theorem DJ2_reverseAllValidSurrogatePairs_db04f_16 : cJ2_reverseAllValidSurrogatePairs_db04f.data.toList.drop 16 = TJ2_reverseAllValidSurrogatePairs_db04f_16 := dr1 DJ2_reverseAllValidSurrogatePairs_db04f_15
theorem DJ2_reverseAllValidSurrogatePairs_db04f_19 : cJ2_reverseAllValidSurrogatePairs_db04f.data.toList.drop 19 = TJ2_reverseAllValidSurrogatePairs_db04f_19 := dr3 DJ2_reverseAllValidSurrogatePairs_db04f_16
theorem DJ2_reverseAllValidSurrogatePairs_db04f_22 : cJ2_reverseAllValidSurrogatePairs_db04f.data.toList.drop 22 = TJ2_reverseAllValidSurrogatePairs_db04f_22 := dr3 DJ2_reverseAllValidSurrogatePairs_db04f_19
theorem DJ2_reverseAllValidSurrogatePairs_db04f_23 : cJ2_reverseAllValidSurrogatePairs_db04f.data.toList.drop 23 = TJ2_reverseAllValidSurrogatePairs_db04f_23 := dr1 DJ2_reverseAllValidSurrogatePairs_db04f_22
theorem DJ2_reverseAllValidSurrogatePairs_db04f_24 : cJ2_reverseAllValidSurrogatePairs_db04f.data.toList.drop 24 = TJ2_reverseAllValidSurrogatePairs_db04f_24 := dr1 DJ2_reverseAllValidSurrogatePairs_db04f_23
theorem DJ2_reverseAllValidSurrogatePairs_db04f_25 : cJ2_reverseAllValidSurrogatePairs_db04f.data.toList.drop 25 = TJ2_reverseAllValidSurrogatePairs_db04f_25 := dr1 DJ2_reverseAllValidSurrogatePairs_db04f_24
theorem DJ2_reverseAllValidSurrogatePairs_db04f_26 : cJ2_reverseAllValidSurrogatePairs_db04f.data.toList.drop 26 = TJ2_reverseAllValidSurrogatePairs_db04f_26 := dr1 DJ2_reverseAllValidSurrogatePairs_db04f_25
theorem DJ2_reverseAllValidSurrogatePairs_db04f_29 : cJ2_reverseAllValidSurrogatePairs_db04f.data.toList.drop 29 = TJ2_reverseAllValidSurrogatePairs_db04f_29 := dr3 DJ2_reverseAllValidSurrogatePairs_db04f_26
theorem DJ2_reverseAllValidSurrogatePairs_db04f_31 : cJ2_reverseAllValidSurrogatePairs_db04f.data.toList.drop 31 = TJ2_reverseAllValidSurrogatePairs_db04f_31 := dr2 DJ2_reverseAllValidSurrogatePairs_db04f_29
theorem DJ2_reverseAllValidSurrogatePairs_db04f_33 : cJ2_reverseAllValidSurrogatePairs_db04f.data.toList.drop 33 = TJ2_reverseAllValidSurrogatePairs_db04f_33 := dr2 DJ2_reverseAllValidSurrogatePairs_db04f_31
theorem DJ2_reverseAllValidSurrogatePairs_db04f_36 : cJ2_reverseAllValidSurrogatePairs_db04f.data.toList.drop 36 = TJ2_reverseAllValidSurrogatePairs_db04f_36 := dr3 DJ2_reverseAllValidSurrogatePairs_db04f_33
theorem DJ2_reverseAllValidSurrogatePairs_db04f_39 : cJ2_reverseAllValidSurrogatePairs_db04f.data.toList.drop 39 = TJ2_reverseAllValidSurrogatePairs_db04f_39 := dr3 DJ2_reverseAllValidSurrogatePairs_db04f_36
theorem DJ2_reverseAllValidSurrogatePairs_db04f_40 : cJ2_reverseAllValidSurrogatePairs_db04f.data.toList.drop 40 = TJ2_reverseAllValidSurrogatePairs_db04f_40 := dr1 DJ2_reverseAllValidSurrogatePairs_db04f_39
theorem DJ2_reverseAllValidSurrogatePairs_db04f_41 : cJ2_reverseAllValidSurrogatePairs_db04f.data.toList.drop 41 = TJ2_reverseAllValidSurrogatePairs_db04f_41 := dr1 DJ2_reverseAllValidSurrogatePairs_db04f_40
theorem DJ2_reverseAllValidSurrogatePairs_db04f_44 : cJ2_reverseAllValidSurrogatePairs_db04f.data.toList.drop 44 = TJ2_reverseAllValidSurrogatePairs_db04f_44 := dr3 DJ2_reverseAllValidSurrogatePairs_db04f_41
theorem DJ2_reverseAllValidSurrogatePairs_db04f_46 : cJ2_reverseAllValidSurrogatePairs_db04f.data.toList.drop 46 = TJ2_reverseAllValidSurrogatePairs_db04f_46 := dr2 DJ2_reverseAllValidSurrogatePairs_db04f_44
theorem DJ2_reverseAllValidSurrogatePairs_db04f_49 : cJ2_reverseAllValidSurrogatePairs_db04f.data.toList.drop 49 = TJ2_reverseAllValidSurrogatePairs_db04f_49 := dr3 DJ2_reverseAllValidSurrogatePairs_db04f_46
theorem DJ2_reverseAllValidSurrogatePairs_db04f_50 : cJ2_reverseAllValidSurrogatePairs_db04f.data.toList.drop 50 = TJ2_reverseAllValidSurrogatePairs_db04f_50 := dr1 DJ2_reverseAllValidSurrogatePairs_db04f_49
theorem DJ2_reverseAllValidSurrogatePairs_db04f_51 : cJ2_reverseAllValidSurrogatePairs_db04f.data.toList.drop 51 = TJ2_reverseAllValidSurrogatePairs_db04f_51 := dr1 DJ2_reverseAllValidSurrogatePairs_db04f_50
theorem DJ2_reverseAllValidSurrogatePairs_db04f_52 : cJ2_reverseAllValidSurrogatePairs_db04f.data.toList.drop 52 = TJ2_reverseAllValidSurrogatePairs_db04f_52 := dr1 DJ2_reverseAllValidSurrogatePairs_db04f_51
theorem DJ2_reverseAllValidSurrogatePairs_db04f_55 : cJ2_reverseAllValidSurrogatePairs_db04f.data.toList.drop 55 = TJ2_reverseAllValidSurrogatePairs_db04f_55 := dr3 DJ2_reverseAllValidSurrogatePairs_db04f_52
theorem DJ2_reverseAllValidSurrogatePairs_db04f_58 : cJ2_reverseAllValidSurrogatePairs_db04f.data.toList.drop 58 = TJ2_reverseAllValidSurrogatePairs_db04f_58 := dr3 DJ2_reverseAllValidSurrogatePairs_db04f_55
theorem DJ2_reverseAllValidSurrogatePairs_db04f_61 : cJ2_reverseAllValidSurrogatePairs_db04f.data.toList.drop 61 = TJ2_reverseAllValidSurrogatePairs_db04f_61 := dr3 DJ2_reverseAllValidSurrogatePairs_db04f_58
theorem dJ2_reverseAllValidSurrogatePairs_db04f_0 : decode cJ2_reverseAllValidSurrogatePairs_db04f 0 = .ok (.iconst 0, 1) := do_03 DJ2_reverseAllValidSurrogatePairs_db04f_0
theorem dJ2_reverseAllValidSurrogatePairs_db04f_1 : decode cJ2_reverseAllValidSurrogatePairs_db04f 1 = .ok (.istore_n 2, 1) := do_3d DJ2_reverseAllValidSurrogatePairs_db04f_1
theorem dJ2_reverseAllValidSurrogatePairs_db04f_2 : decode cJ2_reverseAllValidSurrogatePairs_db04f 2 = .ok (.iload_n 2, 1) := do_1c DJ2_reverseAllValidSurrogatePairs_db04f_2
theorem dJ2_reverseAllValidSurrogatePairs_db04f_3 : decode cJ2_reverseAllValidSurrogatePairs_db04f 3 = .ok (.iload_n 1, 1) := do_1b DJ2_reverseAllValidSurrogatePairs_db04f_3
theorem dJ2_reverseAllValidSurrogatePairs_db04f_4 : decode cJ2_reverseAllValidSurrogatePairs_db04f 4 = .ok (.iconst 1, 1) := do_04 DJ2_reverseAllValidSurrogatePairs_db04f_4
theorem dJ2_reverseAllValidSurrogatePairs_db04f_5 : decode cJ2_reverseAllValidSurrogatePairs_db04f 5 = .ok (.isub, 1) := do_64 DJ2_reverseAllValidSurrogatePairs_db04f_5
theorem dJ2_reverseAllValidSurrogatePairs_db04f_6 : decode cJ2_reverseAllValidSurrogatePairs_db04f 6 = .ok (.if_icmp .ge 55, 3) := do_a2 DJ2_reverseAllValidSurrogatePairs_db04f_6 (by decide +kernel)
theorem dJ2_reverseAllValidSurrogatePairs_db04f_9 : decode cJ2_reverseAllValidSurrogatePairs_db04f 9 = .ok (.aload_n 0, 1) := do_2a DJ2_reverseAllValidSurrogatePairs_db04f_9
theorem dJ2_reverseAllValidSurrogatePairs_db04f_10 : decode cJ2_reverseAllValidSurrogatePairs_db04f 10 = .ok (.iload_n 2, 1) := do_1c DJ2_reverseAllValidSurrogatePairs_db04f_10
theorem dJ2_reverseAllValidSurrogatePairs_db04f_11 : decode cJ2_reverseAllValidSurrogatePairs_db04f 11 = .ok (.invokestatic 71, 3) := do_b8 DJ2_reverseAllValidSurrogatePairs_db04f_11
theorem dJ2_reverseAllValidSurrogatePairs_db04f_14 : decode cJ2_reverseAllValidSurrogatePairs_db04f 14 = .ok (.istore_n 3, 1) := do_3e DJ2_reverseAllValidSurrogatePairs_db04f_14
theorem dJ2_reverseAllValidSurrogatePairs_db04f_15 : decode cJ2_reverseAllValidSurrogatePairs_db04f 15 = .ok (.iload_n 3, 1) := do_1d DJ2_reverseAllValidSurrogatePairs_db04f_15
theorem dJ2_reverseAllValidSurrogatePairs_db04f_16 : decode cJ2_reverseAllValidSurrogatePairs_db04f 16 = .ok (.invokestatic 81, 3) := do_b8 DJ2_reverseAllValidSurrogatePairs_db04f_16
theorem dJ2_reverseAllValidSurrogatePairs_db04f_19 : decode cJ2_reverseAllValidSurrogatePairs_db04f 19 = .ok (.ifCond .eq 36, 3) := do_99 DJ2_reverseAllValidSurrogatePairs_db04f_19 (by decide +kernel)
theorem dJ2_reverseAllValidSurrogatePairs_db04f_22 : decode cJ2_reverseAllValidSurrogatePairs_db04f 22 = .ok (.aload_n 0, 1) := do_2a DJ2_reverseAllValidSurrogatePairs_db04f_22
theorem dJ2_reverseAllValidSurrogatePairs_db04f_23 : decode cJ2_reverseAllValidSurrogatePairs_db04f 23 = .ok (.iload_n 2, 1) := do_1c DJ2_reverseAllValidSurrogatePairs_db04f_23
theorem dJ2_reverseAllValidSurrogatePairs_db04f_24 : decode cJ2_reverseAllValidSurrogatePairs_db04f 24 = .ok (.iconst 1, 1) := do_04 DJ2_reverseAllValidSurrogatePairs_db04f_24
theorem dJ2_reverseAllValidSurrogatePairs_db04f_25 : decode cJ2_reverseAllValidSurrogatePairs_db04f 25 = .ok (.iadd, 1) := do_60 DJ2_reverseAllValidSurrogatePairs_db04f_25
theorem dJ2_reverseAllValidSurrogatePairs_db04f_26 : decode cJ2_reverseAllValidSurrogatePairs_db04f 26 = .ok (.invokestatic 71, 3) := do_b8 DJ2_reverseAllValidSurrogatePairs_db04f_26
theorem dJ2_reverseAllValidSurrogatePairs_db04f_29 : decode cJ2_reverseAllValidSurrogatePairs_db04f 29 = .ok (.istore 4, 2) := do_36 DJ2_reverseAllValidSurrogatePairs_db04f_29
theorem dJ2_reverseAllValidSurrogatePairs_db04f_31 : decode cJ2_reverseAllValidSurrogatePairs_db04f 31 = .ok (.iload 4, 2) := do_15 DJ2_reverseAllValidSurrogatePairs_db04f_31
theorem dJ2_reverseAllValidSurrogatePairs_db04f_33 : decode cJ2_reverseAllValidSurrogatePairs_db04f 33 = .ok (.invokestatic 75, 3) := do_b8 DJ2_reverseAllValidSurrogatePairs_db04f_33
theorem dJ2_reverseAllValidSurrogatePairs_db04f_36 : decode cJ2_reverseAllValidSurrogatePairs_db04f 36 = .ok (.ifCond .eq 19, 3) := do_99 DJ2_reverseAllValidSurrogatePairs_db04f_36 (by decide +kernel)
theorem dJ2_reverseAllValidSurrogatePairs_db04f_39 : decode cJ2_reverseAllValidSurrogatePairs_db04f 39 = .ok (.aload_n 0, 1) := do_2a DJ2_reverseAllValidSurrogatePairs_db04f_39
theorem dJ2_reverseAllValidSurrogatePairs_db04f_40 : decode cJ2_reverseAllValidSurrogatePairs_db04f 40 = .ok (.iload_n 2, 1) := do_1c DJ2_reverseAllValidSurrogatePairs_db04f_40
theorem dJ2_reverseAllValidSurrogatePairs_db04f_41 : decode cJ2_reverseAllValidSurrogatePairs_db04f 41 = .ok (.iinc 2 1, 3) := do_84 DJ2_reverseAllValidSurrogatePairs_db04f_41
theorem dJ2_reverseAllValidSurrogatePairs_db04f_44 : decode cJ2_reverseAllValidSurrogatePairs_db04f 44 = .ok (.iload 4, 2) := do_15 DJ2_reverseAllValidSurrogatePairs_db04f_44
theorem dJ2_reverseAllValidSurrogatePairs_db04f_46 : decode cJ2_reverseAllValidSurrogatePairs_db04f 46 = .ok (.invokestatic 111, 3) := do_b8 DJ2_reverseAllValidSurrogatePairs_db04f_46
theorem dJ2_reverseAllValidSurrogatePairs_db04f_49 : decode cJ2_reverseAllValidSurrogatePairs_db04f 49 = .ok (.aload_n 0, 1) := do_2a DJ2_reverseAllValidSurrogatePairs_db04f_49
theorem dJ2_reverseAllValidSurrogatePairs_db04f_50 : decode cJ2_reverseAllValidSurrogatePairs_db04f 50 = .ok (.iload_n 2, 1) := do_1c DJ2_reverseAllValidSurrogatePairs_db04f_50
theorem dJ2_reverseAllValidSurrogatePairs_db04f_51 : decode cJ2_reverseAllValidSurrogatePairs_db04f 51 = .ok (.iload_n 3, 1) := do_1d DJ2_reverseAllValidSurrogatePairs_db04f_51
theorem dJ2_reverseAllValidSurrogatePairs_db04f_52 : decode cJ2_reverseAllValidSurrogatePairs_db04f 52 = .ok (.invokestatic 111, 3) := do_b8 DJ2_reverseAllValidSurrogatePairs_db04f_52
theorem dJ2_reverseAllValidSurrogatePairs_db04f_55 : decode cJ2_reverseAllValidSurrogatePairs_db04f 55 = .ok (.iinc 2 1, 3) := do_84 DJ2_reverseAllValidSurrogatePairs_db04f_55
theorem dJ2_reverseAllValidSurrogatePairs_db04f_58 : decode cJ2_reverseAllValidSurrogatePairs_db04f 58 = .ok (.goto (-56), 3) := do_a7 DJ2_reverseAllValidSurrogatePairs_db04f_58 (by decide +kernel)
theorem dJ2_reverseAllValidSurrogatePairs_db04f_61 : decode cJ2_reverseAllValidSurrogatePairs_db04f 61 = .ok (.return_, 1) := do_b1 DJ2_reverseAllValidSurrogatePairs_db04f_61
def TJ2_inflate_0e8fd_42 : List UInt8 := []
def TJ2_inflate_0e8fd_41 : List UInt8 := 177 :: TJ2_inflate_0e8fd_42
def TJ2_inflate_0e8fd_38 : List UInt8 := 167 :: 255 :: 228 :: TJ2_inflate_0e8fd_41
def TJ2_inflate_0e8fd_35 : List UInt8 := 132 :: 5 :: 1 :: TJ2_inflate_0e8fd_38
def TJ2_inflate_0e8fd_32 : List UInt8 := 184 :: 0 :: 111 :: TJ2_inflate_0e8fd_35
def TJ2_inflate_0e8fd_31 : List UInt8 := 126 :: TJ2_inflate_0e8fd_32
def TJ2_inflate_0e8fd_28 : List UInt8 := 17 :: 0 :: 255 :: TJ2_inflate_0e8fd_31
def TJ2_inflate_0e8fd_27 : List UInt8 := 51 :: TJ2_inflate_0e8fd_28
def TJ2_inflate_0e8fd_24 : List UInt8 := 132 :: 1 :: 1 :: TJ2_inflate_0e8fd_27
def TJ2_inflate_0e8fd_23 : List UInt8 := 27 :: TJ2_inflate_0e8fd_24
def TJ2_inflate_0e8fd_22 : List UInt8 := 42 :: TJ2_inflate_0e8fd_23
def TJ2_inflate_0e8fd_19 : List UInt8 := 132 :: 3 :: 1 :: TJ2_inflate_0e8fd_22
def TJ2_inflate_0e8fd_18 : List UInt8 := 29 :: TJ2_inflate_0e8fd_19
def TJ2_inflate_0e8fd_17 : List UInt8 := 44 :: TJ2_inflate_0e8fd_18
def TJ2_inflate_0e8fd_14 : List UInt8 := 162 :: 0 :: 27 :: TJ2_inflate_0e8fd_17
def TJ2_inflate_0e8fd_12 : List UInt8 := 21 :: 4 :: TJ2_inflate_0e8fd_14
def TJ2_inflate_0e8fd_10 : List UInt8 := 21 :: 5 :: TJ2_inflate_0e8fd_12
def TJ2_inflate_0e8fd_8 : List UInt8 := 54 :: 5 :: TJ2_inflate_0e8fd_10
def TJ2_inflate_0e8fd_7 : List UInt8 := 3 :: TJ2_inflate_0e8fd_8
def TJ2_inflate_0e8fd_4 : List UInt8 := 184 :: 0 :: 173 :: TJ2_inflate_0e8fd_7
def TJ2_inflate_0e8fd_3 : List UInt8 := 44 :: TJ2_inflate_0e8fd_4
def TJ2_inflate_0e8fd_1 : List UInt8 := 21 :: 4 :: TJ2_inflate_0e8fd_3
def TJ2_inflate_0e8fd_0 : List UInt8 := 29 :: TJ2_inflate_0e8fd_1
theorem DJ2_inflate_0e8fd_0 : cJ2_inflate_0e8fd.data.toList.drop 0 = TJ2_inflate_0e8fd_0 := by decide +kernel
theorem DJ2_inflate_0e8fd_1 : cJ2_inflate_0e8fd.data.toList.drop 1 = TJ2_inflate_0e8fd_1 := dr1 DJ2_inflate_0e8fd_0
theorem DJ2_inflate_0e8fd_3 : cJ2_inflate_0e8fd.data.toList.drop 3 = TJ2_inflate_0e8fd_3 := dr2 DJ2_inflate_0e8fd_1
theorem DJ2_inflate_0e8fd_4 : cJ2_inflate_0e8fd.data.toList.drop 4 = TJ2_inflate_0e8fd_4 := dr1 DJ2_inflate_0e8fd_3
theorem DJ2_inflate_0e8fd_7 : cJ2_inflate_0e8fd.data.toList.drop 7 = TJ2_inflate_0e8fd_7 := dr3 DJ2_inflate_0e8fd_4
theorem DJ2_inflate_0e8fd_8 : cJ2_inflate_0e8fd.data.toList.drop 8 = TJ2_inflate_0e8fd_8 := dr1 DJ2_inflate_0e8fd_7
theorem DJ2_inflate_0e8fd_10 : cJ2_inflate_0e8fd.data.toList.drop 10 = TJ2_inflate_0e8fd_10 := dr2 DJ2_inflate_0e8fd_8
theorem DJ2_inflate_0e8fd_12 : cJ2_inflate_0e8fd.data.toList.drop 12 = TJ2_inflate_0e8fd_12 := dr2 DJ2_inflate_0e8fd_10
theorem DJ2_inflate_0e8fd_14 : cJ2_inflate_0e8fd.data.toList.drop 14 = TJ2_inflate_0e8fd_14 := dr2 DJ2_inflate_0e8fd_12
theorem DJ2_inflate_0e8fd_17 : cJ2_inflate_0e8fd.data.toList.drop 17 = TJ2_inflate_0e8fd_17 := dr3 DJ2_inflate_0e8fd_14
theorem DJ2_inflate_0e8fd_18 : cJ2_inflate_0e8fd.data.toList.drop 18 = TJ2_inflate_0e8fd_18 := dr1 DJ2_inflate_0e8fd_17
theorem DJ2_inflate_0e8fd_19 : cJ2_inflate_0e8fd.data.toList.drop 19 = TJ2_inflate_0e8fd_19 := dr1 DJ2_inflate_0e8fd_18
theorem DJ2_inflate_0e8fd_22 : cJ2_inflate_0e8fd.data.toList.drop 22 = TJ2_inflate_0e8fd_22 := dr3 DJ2_inflate_0e8fd_19
theorem DJ2_inflate_0e8fd_23 : cJ2_inflate_0e8fd.data.toList.drop 23 = TJ2_inflate_0e8fd_23 := dr1 DJ2_inflate_0e8fd_22
theorem DJ2_inflate_0e8fd_24 : cJ2_inflate_0e8fd.data.toList.drop 24 = TJ2_inflate_0e8fd_24 := dr1 DJ2_inflate_0e8fd_23
theorem DJ2_inflate_0e8fd_27 : cJ2_inflate_0e8fd.data.toList.drop 27 = TJ2_inflate_0e8fd_27 := dr3 DJ2_inflate_0e8fd_24
theorem DJ2_inflate_0e8fd_28 : cJ2_inflate_0e8fd.data.toList.drop 28 = TJ2_inflate_0e8fd_28 := dr1 DJ2_inflate_0e8fd_27
theorem DJ2_inflate_0e8fd_31 : cJ2_inflate_0e8fd.data.toList.drop 31 = TJ2_inflate_0e8fd_31 := dr3 DJ2_inflate_0e8fd_28
theorem DJ2_inflate_0e8fd_32 : cJ2_inflate_0e8fd.data.toList.drop 32 = TJ2_inflate_0e8fd_32 := dr1 DJ2_inflate_0e8fd_31
theorem DJ2_inflate_0e8fd_35 : cJ2_inflate_0e8fd.data.toList.drop 35 = TJ2_inflate_0e8fd_35 := dr3 DJ2_inflate_0e8fd_32
theorem DJ2_inflate_0e8fd_38 : cJ2_inflate_0e8fd.data.toList.drop 38 = TJ2_inflate_0e8fd_38 := dr3 DJ2_inflate_0e8fd_35
theorem DJ2_inflate_0e8fd_41 : cJ2_inflate_0e8fd.data.toList.drop 41 = TJ2_inflate_0e8fd_41 := dr3 DJ2_inflate_0e8fd_38
theorem dJ2_inflate_0e8fd_0 : decode cJ2_inflate_0e8fd 0 = .ok (.iload_n 3, 1) := do_1d DJ2_inflate_0e8fd_0
theorem dJ2_inflate_0e8fd_1 : decode cJ2_inflate_0e8fd 1 = .ok (.iload 4, 2) := do_15 DJ2_inflate_0e8fd_1
theorem dJ2_inflate_0e8fd_3 : decode cJ2_inflate_0e8fd 3 = .ok (.aload_n 2, 1) := do_2c DJ2_inflate_0e8fd_3
theorem dJ2_inflate_0e8fd_4 : decode cJ2_inflate_0e8fd 4 = .ok (.invokestatic 173, 3) := do_b8 DJ2_inflate_0e8fd_4
theorem dJ2_inflate_0e8fd_7 : decode cJ2_inflate_0e8fd 7 = .ok (.iconst 0, 1) := do_03 DJ2_inflate_0e8fd_7
theorem dJ2_inflate_0e8fd_8 : decode cJ2_inflate_0e8fd 8 = .ok (.istore 5, 2) := do_36 DJ2_inflate_0e8fd_8
theorem dJ2_inflate_0e8fd_10 : decode cJ2_inflate_0e8fd 10 = .ok (.iload 5, 2) := do_15 DJ2_inflate_0e8fd_10
theorem dJ2_inflate_0e8fd_12 : decode cJ2_inflate_0e8fd 12 = .ok (.iload 4, 2) := do_15 DJ2_inflate_0e8fd_12
theorem dJ2_inflate_0e8fd_14 : decode cJ2_inflate_0e8fd 14 = .ok (.if_icmp .ge 27, 3) := do_a2 DJ2_inflate_0e8fd_14 (by decide +kernel)
theorem dJ2_inflate_0e8fd_17 : decode cJ2_inflate_0e8fd 17 = .ok (.aload_n 2, 1) := do_2c DJ2_inflate_0e8fd_17
theorem dJ2_inflate_0e8fd_18 : decode cJ2_inflate_0e8fd 18 = .ok (.iload_n 3, 1) := do_1d DJ2_inflate_0e8fd_18
theorem dJ2_inflate_0e8fd_19 : decode cJ2_inflate_0e8fd 19 = .ok (.iinc 3 1, 3) := do_84 DJ2_inflate_0e8fd_19
theorem dJ2_inflate_0e8fd_22 : decode cJ2_inflate_0e8fd 22 = .ok (.aload_n 0, 1) := do_2a DJ2_inflate_0e8fd_22
theorem dJ2_inflate_0e8fd_23 : decode cJ2_inflate_0e8fd 23 = .ok (.iload_n 1, 1) := do_1b DJ2_inflate_0e8fd_23
theorem dJ2_inflate_0e8fd_24 : decode cJ2_inflate_0e8fd 24 = .ok (.iinc 1 1, 3) := do_84 DJ2_inflate_0e8fd_24
theorem dJ2_inflate_0e8fd_27 : decode cJ2_inflate_0e8fd 27 = .ok (.baload, 1) := do_33 DJ2_inflate_0e8fd_27
theorem dJ2_inflate_0e8fd_28 : decode cJ2_inflate_0e8fd 28 = .ok (.sipush 255, 3) := do_11 DJ2_inflate_0e8fd_28 (by decide +kernel)
theorem dJ2_inflate_0e8fd_31 : decode cJ2_inflate_0e8fd 31 = .ok (.iand, 1) := do_7e DJ2_inflate_0e8fd_31
theorem dJ2_inflate_0e8fd_32 : decode cJ2_inflate_0e8fd 32 = .ok (.invokestatic 111, 3) := do_b8 DJ2_inflate_0e8fd_32
theorem dJ2_inflate_0e8fd_35 : decode cJ2_inflate_0e8fd 35 = .ok (.iinc 5 1, 3) := do_84 DJ2_inflate_0e8fd_35
theorem dJ2_inflate_0e8fd_38 : decode cJ2_inflate_0e8fd 38 = .ok (.goto (-28), 3) := do_a7 DJ2_inflate_0e8fd_38 (by decide +kernel)
theorem dJ2_inflate_0e8fd_41 : decode cJ2_inflate_0e8fd 41 = .ok (.return_, 1) := do_b1 DJ2_inflate_0e8fd_41
def TJ2_getChars_ba4f3_131 : List UInt8 := []
def TJ2_getChars_ba4f3_130 : List UInt8 := 172 :: TJ2_getChars_ba4f3_131
def TJ2_getChars_ba4f3_128 : List UInt8 := 21 :: 5 :: TJ2_getChars_ba4f3_130
def TJ2_getChars_ba4f3_125 : List UInt8 := 184 :: 0 :: 111 :: TJ2_getChars_ba4f3_128
def TJ2_getChars_ba4f3_123 : List UInt8 := 16 :: 45 :: TJ2_getChars_ba4f3_125
def TJ2_getChars_ba4f3_121 : List UInt8 := 21 :: 5 :: TJ2_getChars_ba4f3_123
def TJ2_getChars_ba4f3_118 : List UInt8 := 132 :: 5 :: 255 :: TJ2_getChars_ba4f3_121
def TJ2_getChars_ba4f3_117 : List UInt8 := 44 :: TJ2_getChars_ba4f3_118
def TJ2_getChars_ba4f3_114 : List UInt8 := 153 :: 0 :: 14 :: TJ2_getChars_ba4f3_117
def TJ2_getChars_ba4f3_112 : List UInt8 := 21 :: 6 :: TJ2_getChars_ba4f3_114
def TJ2_getChars_ba4f3_109 : List UInt8 := 184 :: 0 :: 111 :: TJ2_getChars_ba4f3_112
def TJ2_getChars_ba4f3_108 : List UInt8 := 51 :: TJ2_getChars_ba4f3_109
def TJ2_getChars_ba4f3_107 : List UInt8 := 116 :: TJ2_getChars_ba4f3_108
def TJ2_getChars_ba4f3_106 : List UInt8 := 26 :: TJ2_getChars_ba4f3_107
def TJ2_getChars_ba4f3_103 : List UInt8 := 178 :: 1 :: 151 :: TJ2_getChars_ba4f3_106
def TJ2_getChars_ba4f3_101 : List UInt8 := 21 :: 5 :: TJ2_getChars_ba4f3_103
def TJ2_getChars_ba4f3_98 : List UInt8 := 132 :: 5 :: 255 :: TJ2_getChars_ba4f3_101
def TJ2_getChars_ba4f3_97 : List UInt8 := 44 :: TJ2_getChars_ba4f3_98
def TJ2_getChars_ba4f3_94 : List UInt8 := 162 :: 0 :: 18 :: TJ2_getChars_ba4f3_97
def TJ2_getChars_ba4f3_92 : List UInt8 := 16 :: 247 :: TJ2_getChars_ba4f3_94
def TJ2_getChars_ba4f3_91 : List UInt8 := 26 :: TJ2_getChars_ba4f3_92
def TJ2_getChars_ba4f3_88 : List UInt8 := 184 :: 0 :: 111 :: TJ2_getChars_ba4f3_91
def TJ2_getChars_ba4f3_87 : List UInt8 := 51 :: TJ2_getChars_ba4f3_88
def TJ2_getChars_ba4f3_86 : List UInt8 := 116 :: TJ2_getChars_ba4f3_87
def TJ2_getChars_ba4f3_85 : List UInt8 := 26 :: TJ2_getChars_ba4f3_86
def TJ2_getChars_ba4f3_82 : List UInt8 := 178 :: 1 :: 147 :: TJ2_getChars_ba4f3_85
def TJ2_getChars_ba4f3_80 : List UInt8 := 21 :: 5 :: TJ2_getChars_ba4f3_82
def TJ2_getChars_ba4f3_77 : List UInt8 := 132 :: 5 :: 255 :: TJ2_getChars_ba4f3_80
def TJ2_getChars_ba4f3_76 : List UInt8 := 44 :: TJ2_getChars_ba4f3_77
def TJ2_getChars_ba4f3_73 : List UInt8 := 167 :: 255 :: 205 :: TJ2_getChars_ba4f3_76
def TJ2_getChars_ba4f3_70 : List UInt8 := 184 :: 0 :: 111 :: TJ2_getChars_ba4f3_73
def TJ2_getChars_ba4f3_69 : List UInt8 := 51 :: TJ2_getChars_ba4f3_70
def TJ2_getChars_ba4f3_67 : List UInt8 := 21 :: 4 :: TJ2_getChars_ba4f3_69
def TJ2_getChars_ba4f3_64 : List UInt8 := 178 :: 1 :: 151 :: TJ2_getChars_ba4f3_67
def TJ2_getChars_ba4f3_62 : List UInt8 := 21 :: 5 :: TJ2_getChars_ba4f3_64
def TJ2_getChars_ba4f3_59 : List UInt8 := 132 :: 5 :: 255 :: TJ2_getChars_ba4f3_62
def TJ2_getChars_ba4f3_58 : List UInt8 := 44 :: TJ2_getChars_ba4f3_59
def TJ2_getChars_ba4f3_55 : List UInt8 := 184 :: 0 :: 111 :: TJ2_getChars_ba4f3_58
def TJ2_getChars_ba4f3_54 : List UInt8 := 51 :: TJ2_getChars_ba4f3_55
def TJ2_getChars_ba4f3_52 : List UInt8 := 21 :: 4 :: TJ2_getChars_ba4f3_54
def TJ2_getChars_ba4f3_49 : List UInt8 := 178 :: 1 :: 147 :: TJ2_getChars_ba4f3_52
def TJ2_getChars_ba4f3_47 : List UInt8 := 21 :: 5 :: TJ2_getChars_ba4f3_49
def TJ2_getChars_ba4f3_44 : List UInt8 := 132 :: 5 :: 255 :: TJ2_getChars_ba4f3_47
def TJ2_getChars_ba4f3_43 : List UInt8 := 44 :: TJ2_getChars_ba4f3_44
def TJ2_getChars_ba4f3_42 : List UInt8 := 59 :: TJ2_getChars_ba4f3_43
def TJ2_getChars_ba4f3_41 : List UInt8 := 29 :: TJ2_getChars_ba4f3_42
def TJ2_getChars_ba4f3_39 : List UInt8 := 54 :: 4 :: TJ2_getChars_ba4f3_41
def TJ2_getChars_ba4f3_38 : List UInt8 := 100 :: TJ2_getChars_ba4f3_39
def TJ2_getChars_ba4f3_37 : List UInt8 := 26 :: TJ2_getChars_ba4f3_38
def TJ2_getChars_ba4f3_36 : List UInt8 := 104 :: TJ2_getChars_ba4f3_37
def TJ2_getChars_ba4f3_34 : List UInt8 := 16 :: 100 :: TJ2_getChars_ba4f3_36
def TJ2_getChars_ba4f3_33 : List UInt8 := 29 :: TJ2_getChars_ba4f3_34
def TJ2_getChars_ba4f3_32 : List UInt8 := 62 :: TJ2_getChars_ba4f3_33
def TJ2_getChars_ba4f3_31 : List UInt8 := 108 :: TJ2_getChars_ba4f3_32
def TJ2_getChars_ba4f3_29 : List UInt8 := 16 :: 100 :: TJ2_getChars_ba4f3_31
def TJ2_getChars_ba4f3_28 : List UInt8 := 26 :: TJ2_getChars_ba4f3_29
def TJ2_getChars_ba4f3_25 : List UInt8 := 163 :: 0 :: 51 :: TJ2_getChars_ba4f3_28
def TJ2_getChars_ba4f3_23 : List UInt8 := 16 :: 156 :: TJ2_getChars_ba4f3_25
def TJ2_getChars_ba4f3_22 : List UInt8 := 26 :: TJ2_getChars_ba4f3_23
def TJ2_getChars_ba4f3_21 : List UInt8 := 59 :: TJ2_getChars_ba4f3_22
def TJ2_getChars_ba4f3_20 : List UInt8 := 116 :: TJ2_getChars_ba4f3_21
def TJ2_getChars_ba4f3_19 : List UInt8 := 26 :: TJ2_getChars_ba4f3_20
def TJ2_getChars_ba4f3_16 : List UInt8 := 154 :: 0 :: 6 :: TJ2_getChars_ba4f3_19
def TJ2_getChars_ba4f3_14 : List UInt8 := 21 :: 6 :: TJ2_getChars_ba4f3_16
def TJ2_getChars_ba4f3_12 : List UInt8 := 54 :: 6 :: TJ2_getChars_ba4f3_14
def TJ2_getChars_ba4f3_11 : List UInt8 := 3 :: TJ2_getChars_ba4f3_12
def TJ2_getChars_ba4f3_8 : List UInt8 := 167 :: 0 :: 4 :: TJ2_getChars_ba4f3_11
def TJ2_getChars_ba4f3_7 : List UInt8 := 4 :: TJ2_getChars_ba4f3_8
def TJ2_getChars_ba4f3_4 : List UInt8 := 156 :: 0 :: 7 :: TJ2_getChars_ba4f3_7
def TJ2_getChars_ba4f3_3 : List UInt8 := 26 :: TJ2_getChars_ba4f3_4
def TJ2_getChars_ba4f3_1 : List UInt8 := 54 :: 5 :: TJ2_getChars_ba4f3_3
def TJ2_getChars_ba4f3_0 : List UInt8 := 27 :: TJ2_getChars_ba4f3_1
theorem DJ2_getChars_ba4f3_0 : cJ2_getChars_ba4f3.data.toList.drop 0 = TJ2_getChars_ba4f3_0 := by decide +kernel
theorem DJ2_getChars_ba4f3_1 : cJ2_getChars_ba4f3.data.toList.drop 1 = TJ2_getChars_ba4f3_1 := dr1 DJ2_getChars_ba4f3_0
theorem DJ2_getChars_ba4f3_3 : cJ2_getChars_ba4f3.data.toList.drop 3 = TJ2_getChars_ba4f3_3 := dr2 DJ2_getChars_ba4f3_1
theorem DJ2_getChars_ba4f3_4 : cJ2_getChars_ba4f3.data.toList.drop 4 = TJ2_getChars_ba4f3_4 := dr1 DJ2_getChars_ba4f3_3
theorem DJ2_getChars_ba4f3_7 : cJ2_getChars_ba4f3.data.toList.drop 7 = TJ2_getChars_ba4f3_7 := dr3 DJ2_getChars_ba4f3_4
theorem DJ2_getChars_ba4f3_8 : cJ2_getChars_ba4f3.data.toList.drop 8 = TJ2_getChars_ba4f3_8 := dr1 DJ2_getChars_ba4f3_7
theorem DJ2_getChars_ba4f3_11 : cJ2_getChars_ba4f3.data.toList.drop 11 = TJ2_getChars_ba4f3_11 := dr3 DJ2_getChars_ba4f3_8
theorem DJ2_getChars_ba4f3_12 : cJ2_getChars_ba4f3.data.toList.drop 12 = TJ2_getChars_ba4f3_12 := dr1 DJ2_getChars_ba4f3_11
theorem DJ2_getChars_ba4f3_14 : cJ2_getChars_ba4f3.data.toList.drop 14 = TJ2_getChars_ba4f3_14 := dr2 DJ2_getChars_ba4f3_12
theorem DJ2_getChars_ba4f3_16 : cJ2_getChars_ba4f3.data.toList.drop 16 = TJ2_getChars_ba4f3_16 := dr2 DJ2_getChars_ba4f3_14
theorem DJ2_getChars_ba4f3_19 : cJ2_getChars_ba4f3.data.toList.drop 19 = TJ2_getChars_ba4f3_19 := dr3 DJ2_getChars_ba4f3_16
theorem DJ2_getChars_ba4f3_20 : cJ2_getChars_ba4f3.data.toList.drop 20 = TJ2_getChars_ba4f3_20 := dr1 DJ2_getChars_ba4f3_19
theorem DJ2_getChars_ba4f3_21 : cJ2_getChars_ba4f3.data.toList.drop 21 = TJ2_getChars_ba4f3_21 := dr1 DJ2_getChars_ba4f3_20
theorem DJ2_getChars_ba4f3_22 : cJ2_getChars_ba4f3.data.toList.drop 22 = TJ2_getChars_ba4f3_22 := dr1 DJ2_getChars_ba4f3_21
theorem DJ2_getChars_ba4f3_23 : cJ2_getChars_ba4f3.data.toList.drop 23 = TJ2_getChars_ba4f3_23 := dr1 DJ2_getChars_ba4f3_22
theorem DJ2_getChars_ba4f3_25 : cJ2_getChars_ba4f3.data.toList.drop 25 = TJ2_getChars_ba4f3_25 := dr2 DJ2_getChars_ba4f3_23
theorem DJ2_getChars_ba4f3_28 : cJ2_getChars_ba4f3.data.toList.drop 28 = TJ2_getChars_ba4f3_28 := dr3 DJ2_getChars_ba4f3_25
theorem DJ2_getChars_ba4f3_29 : cJ2_getChars_ba4f3.data.toList.drop 29 = TJ2_getChars_ba4f3_29 := dr1 DJ2_getChars_ba4f3_28
theorem DJ2_getChars_ba4f3_31 : cJ2_getChars_ba4f3.data.toList.drop 31 = TJ2_getChars_ba4f3_31 := dr2 DJ2_getChars_ba4f3_29
theorem DJ2_getChars_ba4f3_32 : cJ2_getChars_ba4f3.data.toList.drop 32 = TJ2_getChars_ba4f3_32 := dr1 DJ2_getChars_ba4f3_31
theorem DJ2_getChars_ba4f3_33 : cJ2_getChars_ba4f3.data.toList.drop 33 = TJ2_getChars_ba4f3_33 := dr1 DJ2_getChars_ba4f3_32
theorem DJ2_getChars_ba4f3_34 : cJ2_getChars_ba4f3.data.toList.drop 34 = TJ2_getChars_ba4f3_34 := dr1 DJ2_getChars_ba4f3_33
theorem DJ2_getChars_ba4f3_36 : cJ2_getChars_ba4f3.data.toList.drop 36 = TJ2_getChars_ba4f3_36 := dr2 DJ2_getChars_ba4f3_34
theorem DJ2_getChars_ba4f3_37 : cJ2_getChars_ba4f3.data.toList.drop 37 = TJ2_getChars_ba4f3_37 := dr1 DJ2_getChars_ba4f3_36
theorem DJ2_getChars_ba4f3_38 : cJ2_getChars_ba4f3.data.toList.drop 38 = TJ2_getChars_ba4f3_38 := dr1 DJ2_getChars_ba4f3_37
theorem DJ2_getChars_ba4f3_39 : cJ2_getChars_ba4f3.data.toList.drop 39 = TJ2_getChars_ba4f3_39 := dr1 DJ2_getChars_ba4f3_38
theorem DJ2_getChars_ba4f3_41 : cJ2_getChars_ba4f3.data.toList.drop 41 = TJ2_getChars_ba4f3_41 := dr2 DJ2_getChars_ba4f3_39
theorem DJ2_getChars_ba4f3_42 : cJ2_getChars_ba4f3.data.toList.drop 42 = TJ2_getChars_ba4f3_42 := dr1 DJ2_getChars_ba4f3_41
theorem DJ2_getChars_ba4f3_43 : cJ2_getChars_ba4f3.data.toList.drop 43 = TJ2_getChars_ba4f3_43 := dr1 DJ2_getChars_ba4f3_42
theorem DJ2_getChars_ba4f3_44 : cJ2_getChars_ba4f3.data.toList.drop 44 = TJ2_getChars_ba4f3_44 := dr1 DJ2_getChars_ba4f3_43
theorem DJ2_getChars_ba4f3_47 : cJ2_getChars_ba4f3.data.toList.drop 47 = TJ2_getChars_ba4f3_47 := dr3 DJ2_getChars_ba4f3_44
theorem DJ2_getChars_ba4f3_49 : cJ2_getChars_ba4f3.data.toList.drop 49 = TJ2_getChars_ba4f3_49 := dr2 DJ2_getChars_ba4f3_47
theorem DJ2_getChars_ba4f3_52 : cJ2_getChars_ba4f3.data.toList.drop 52 = TJ2_getChars_ba4f3_52 := dr3 DJ2_getChars_ba4f3_49
theorem DJ2_getChars_ba4f3_54 : cJ2_getChars_ba4f3.data.toList.drop 54 = TJ2_getChars_ba4f3_54 := dr2 DJ2_getChars_ba4f3_52
theorem DJ2_getChars_ba4f3_55 : cJ2_getChars_ba4f3.data.toList.drop 55 = TJ2_getChars_ba4f3_55 := dr1 DJ2_getChars_ba4f3_54
theorem DJ2_getChars_ba4f3_58 : cJ2_getChars_ba4f3.data.toList.drop 58 = TJ2_getChars_ba4f3_58 := dr3 DJ2_getChars_ba4f3_55
theorem DJ2_getChars_ba4f3_59 : cJ2_getChars_ba4f3.data.toList.drop 59 = TJ2_getChars_ba4f3_59 := dr1 DJ2_getChars_ba4f3_58
theorem DJ2_getChars_ba4f3_62 : cJ2_getChars_ba4f3.data.toList.drop 62 = TJ2_getChars_ba4f3_62 := dr3 DJ2_getChars_ba4f3_59
theorem DJ2_getChars_ba4f3_64 : cJ2_getChars_ba4f3.data.toList.drop 64 = TJ2_getChars_ba4f3_64 := dr2 DJ2_getChars_ba4f3_62
theorem DJ2_getChars_ba4f3_67 : cJ2_getChars_ba4f3.data.toList.drop 67 = TJ2_getChars_ba4f3_67 := dr3 DJ2_getChars_ba4f3_64
theorem DJ2_getChars_ba4f3_69 : cJ2_getChars_ba4f3.data.toList.drop 69 = TJ2_getChars_ba4f3_69 := dr2 DJ2_getChars_ba4f3_67
theorem DJ2_getChars_ba4f3_70 : cJ2_getChars_ba4f3.data.toList.drop 70 = TJ2_getChars_ba4f3_70 := dr1 DJ2_getChars_ba4f3_69
theorem DJ2_getChars_ba4f3_73 : cJ2_getChars_ba4f3.data.toList.drop 73 = TJ2_getChars_ba4f3_73 := dr3 DJ2_getChars_ba4f3_70
theorem DJ2_getChars_ba4f3_76 : cJ2_getChars_ba4f3.data.toList.drop 76 = TJ2_getChars_ba4f3_76 := dr3 DJ2_getChars_ba4f3_73
theorem DJ2_getChars_ba4f3_77 : cJ2_getChars_ba4f3.data.toList.drop 77 = TJ2_getChars_ba4f3_77 := dr1 DJ2_getChars_ba4f3_76
theorem DJ2_getChars_ba4f3_80 : cJ2_getChars_ba4f3.data.toList.drop 80 = TJ2_getChars_ba4f3_80 := dr3 DJ2_getChars_ba4f3_77
theorem DJ2_getChars_ba4f3_82 : cJ2_getChars_ba4f3.data.toList.drop 82 = TJ2_getChars_ba4f3_82 := dr2 DJ2_getChars_ba4f3_80
theorem DJ2_getChars_ba4f3_85 : cJ2_getChars_ba4f3.data.toList.drop 85 = TJ2_getChars_ba4f3_85 := dr3 DJ2_getChars_ba4f3_82
theorem DJ2_getChars_ba4f3_86 : cJ2_getChars_ba4f3.data.toList.drop 86 = TJ2_getChars_ba4f3_86 := dr1 DJ2_getChars_ba4f3_85
theorem DJ2_getChars_ba4f3_87 : cJ2_getChars_ba4f3.data.toList.drop 87 = TJ2_getChars_ba4f3_87 := dr1 DJ2_getChars_ba4f3_86
theorem DJ2_getChars_ba4f3_88 : cJ2_getChars_ba4f3.data.toList.drop 88 = TJ2_getChars_ba4f3_88 := dr1 DJ2_getChars_ba4f3_87
theorem DJ2_getChars_ba4f3_91 : cJ2_getChars_ba4f3.data.toList.drop 91 = TJ2_getChars_ba4f3_91 := dr3 DJ2_getChars_ba4f3_88
theorem DJ2_getChars_ba4f3_92 : cJ2_getChars_ba4f3.data.toList.drop 92 = TJ2_getChars_ba4f3_92 := dr1 DJ2_getChars_ba4f3_91
theorem DJ2_getChars_ba4f3_94 : cJ2_getChars_ba4f3.data.toList.drop 94 = TJ2_getChars_ba4f3_94 := dr2 DJ2_getChars_ba4f3_92
theorem DJ2_getChars_ba4f3_97 : cJ2_getChars_ba4f3.data.toList.drop 97 = TJ2_getChars_ba4f3_97 := dr3 DJ2_getChars_ba4f3_94
theorem DJ2_getChars_ba4f3_98 : cJ2_getChars_ba4f3.data.toList.drop 98 = TJ2_getChars_ba4f3_98 := dr1 DJ2_getChars_ba4f3_97
theorem DJ2_getChars_ba4f3_101 : cJ2_getChars_ba4f3.data.toList.drop 101 = TJ2_getChars_ba4f3_101 := dr3 DJ2_getChars_ba4f3_98
theorem DJ2_getChars_ba4f3_103 : cJ2_getChars_ba4f3.data.toList.drop 103 = TJ2_getChars_ba4f3_103 := dr2 DJ2_getChars_ba4f3_101
theorem DJ2_getChars_ba4f3_106 : cJ2_getChars_ba4f3.data.toList.drop 106 = TJ2_getChars_ba4f3_106 := dr3 DJ2_getChars_ba4f3_103
theorem DJ2_getChars_ba4f3_107 : cJ2_getChars_ba4f3.data.toList.drop 107 = TJ2_getChars_ba4f3_107 := dr1 DJ2_getChars_ba4f3_106
theorem DJ2_getChars_ba4f3_108 : cJ2_getChars_ba4f3.data.toList.drop 108 = TJ2_getChars_ba4f3_108 := dr1 DJ2_getChars_ba4f3_107
theorem DJ2_getChars_ba4f3_109 : cJ2_getChars_ba4f3.data.toList.drop 109 = TJ2_getChars_ba4f3_109 := dr1 DJ2_getChars_ba4f3_108
theorem DJ2_getChars_ba4f3_112 : cJ2_getChars_ba4f3.data.toList.drop 112 = TJ2_getChars_ba4f3_112 := dr3 DJ2_getChars_ba4f3_109
theorem DJ2_getChars_ba4f3_114 : cJ2_getChars_ba4f3.data.toList.drop 114 = TJ2_getChars_ba4f3_114 := dr2 DJ2_getChars_ba4f3_112
theorem DJ2_getChars_ba4f3_117 : cJ2_getChars_ba4f3.data.toList.drop 117 = TJ2_getChars_ba4f3_117 := dr3 DJ2_getChars_ba4f3_114
theorem DJ2_getChars_ba4f3_118 : cJ2_getChars_ba4f3.data.toList.drop 118 = TJ2_getChars_ba4f3_118 := dr1 DJ2_getChars_ba4f3_117
theorem DJ2_getChars_ba4f3_121 : cJ2_getChars_ba4f3.data.toList.drop 121 = TJ2_getChars_ba4f3_121 := dr3 DJ2_getChars_ba4f3_118
theorem DJ2_getChars_ba4f3_123 : cJ2_getChars_ba4f3.data.toList.drop 123 = TJ2_getChars_ba4f3_123 := dr2 DJ2_getChars_ba4f3_121
theorem DJ2_getChars_ba4f3_125 : cJ2_getChars_ba4f3.data.toList.drop 125 = TJ2_getChars_ba4f3_125 := dr2 DJ2_getChars_ba4f3_123
theorem DJ2_getChars_ba4f3_128 : cJ2_getChars_ba4f3.data.toList.drop 128 = TJ2_getChars_ba4f3_128 := dr3 DJ2_getChars_ba4f3_125
theorem DJ2_getChars_ba4f3_130 : cJ2_getChars_ba4f3.data.toList.drop 130 = TJ2_getChars_ba4f3_130 := dr2 DJ2_getChars_ba4f3_128
theorem dJ2_getChars_ba4f3_0 : decode cJ2_getChars_ba4f3 0 = .ok (.iload_n 1, 1) := do_1b DJ2_getChars_ba4f3_0
theorem dJ2_getChars_ba4f3_1 : decode cJ2_getChars_ba4f3 1 = .ok (.istore 5, 2) := do_36 DJ2_getChars_ba4f3_1
theorem dJ2_getChars_ba4f3_3 : decode cJ2_getChars_ba4f3 3 = .ok (.iload_n 0, 1) := do_1a DJ2_getChars_ba4f3_3
theorem dJ2_getChars_ba4f3_4 : decode cJ2_getChars_ba4f3 4 = .ok (.ifCond .ge 7, 3) := do_9c DJ2_getChars_ba4f3_4 (by decide +kernel)
theorem dJ2_getChars_ba4f3_7 : decode cJ2_getChars_ba4f3 7 = .ok (.iconst 1, 1) := do_04 DJ2_getChars_ba4f3_7
theorem dJ2_getChars_ba4f3_8 : decode cJ2_getChars_ba4f3 8 = .ok (.goto 4, 3) := do_a7 DJ2_getChars_ba4f3_8 (by decide +kernel)
theorem dJ2_getChars_ba4f3_11 : decode cJ2_getChars_ba4f3 11 = .ok (.iconst 0, 1) := do_03 DJ2_getChars_ba4f3_11
theorem dJ2_getChars_ba4f3_12 : decode cJ2_getChars_ba4f3 12 = .ok (.istore 6, 2) := do_36 DJ2_getChars_ba4f3_12
theorem dJ2_getChars_ba4f3_14 : decode cJ2_getChars_ba4f3 14 = .ok (.iload 6, 2) := do_15 DJ2_getChars_ba4f3_14
theorem dJ2_getChars_ba4f3_16 : decode cJ2_getChars_ba4f3 16 = .ok (.ifCond .ne 6, 3) := do_9a DJ2_getChars_ba4f3_16 (by decide +kernel)
theorem dJ2_getChars_ba4f3_19 : decode cJ2_getChars_ba4f3 19 = .ok (.iload_n 0, 1) := do_1a DJ2_getChars_ba4f3_19
theorem dJ2_getChars_ba4f3_20 : decode cJ2_getChars_ba4f3 20 = .ok (.ineg, 1) := do_74 DJ2_getChars_ba4f3_20
theorem dJ2_getChars_ba4f3_21 : decode cJ2_getChars_ba4f3 21 = .ok (.istore_n 0, 1) := do_3b DJ2_getChars_ba4f3_21
theorem dJ2_getChars_ba4f3_22 : decode cJ2_getChars_ba4f3 22 = .ok (.iload_n 0, 1) := do_1a DJ2_getChars_ba4f3_22
theorem dJ2_getChars_ba4f3_23 : decode cJ2_getChars_ba4f3 23 = .ok (.bipush (-100), 2) := do_10 DJ2_getChars_ba4f3_23 (by decide +kernel)
theorem dJ2_getChars_ba4f3_25 : decode cJ2_getChars_ba4f3 25 = .ok (.if_icmp .gt 51, 3) := do_a3 DJ2_getChars_ba4f3_25 (by decide +kernel)
theorem dJ2_getChars_ba4f3_28 : decode cJ2_getChars_ba4f3 28 = .ok (.iload_n 0, 1) := do_1a DJ2_getChars_ba4f3_28
theorem dJ2_getChars_ba4f3_29 : decode cJ2_getChars_ba4f3 29 = .ok (.bipush 100, 2) := do_10 DJ2_getChars_ba4f3_29 (by decide +kernel)
theorem dJ2_getChars_ba4f3_31 : decode cJ2_getChars_ba4f3 31 = .ok (.idiv, 1) := do_6c DJ2_getChars_ba4f3_31
theorem dJ2_getChars_ba4f3_32 : decode cJ2_getChars_ba4f3 32 = .ok (.istore_n 3, 1) := do_3e DJ2_getChars_ba4f3_32
theorem dJ2_getChars_ba4f3_33 : decode cJ2_getChars_ba4f3 33 = .ok (.iload_n 3, 1) := do_1d DJ2_getChars_ba4f3_33
theorem dJ2_getChars_ba4f3_34 : decode cJ2_getChars_ba4f3 34 = .ok (.bipush 100, 2) := do_10 DJ2_getChars_ba4f3_34 (by decide +kernel)
theorem dJ2_getChars_ba4f3_36 : decode cJ2_getChars_ba4f3 36 = .ok (.imul, 1) := do_68 DJ2_getChars_ba4f3_36
theorem dJ2_getChars_ba4f3_37 : decode cJ2_getChars_ba4f3 37 = .ok (.iload_n 0, 1) := do_1a DJ2_getChars_ba4f3_37
theorem dJ2_getChars_ba4f3_38 : decode cJ2_getChars_ba4f3 38 = .ok (.isub, 1) := do_64 DJ2_getChars_ba4f3_38
theorem dJ2_getChars_ba4f3_39 : decode cJ2_getChars_ba4f3 39 = .ok (.istore 4, 2) := do_36 DJ2_getChars_ba4f3_39
theorem dJ2_getChars_ba4f3_41 : decode cJ2_getChars_ba4f3 41 = .ok (.iload_n 3, 1) := do_1d DJ2_getChars_ba4f3_41
theorem dJ2_getChars_ba4f3_42 : decode cJ2_getChars_ba4f3 42 = .ok (.istore_n 0, 1) := do_3b DJ2_getChars_ba4f3_42
theorem dJ2_getChars_ba4f3_43 : decode cJ2_getChars_ba4f3 43 = .ok (.aload_n 2, 1) := do_2c DJ2_getChars_ba4f3_43
theorem dJ2_getChars_ba4f3_44 : decode cJ2_getChars_ba4f3 44 = .ok (.iinc 5 (-1), 3) := do_84 DJ2_getChars_ba4f3_44
theorem dJ2_getChars_ba4f3_47 : decode cJ2_getChars_ba4f3 47 = .ok (.iload 5, 2) := do_15 DJ2_getChars_ba4f3_47
theorem dJ2_getChars_ba4f3_49 : decode cJ2_getChars_ba4f3 49 = .ok (.getstatic 403, 3) := do_b2 DJ2_getChars_ba4f3_49
theorem dJ2_getChars_ba4f3_52 : decode cJ2_getChars_ba4f3 52 = .ok (.iload 4, 2) := do_15 DJ2_getChars_ba4f3_52
theorem dJ2_getChars_ba4f3_54 : decode cJ2_getChars_ba4f3 54 = .ok (.baload, 1) := do_33 DJ2_getChars_ba4f3_54
theorem dJ2_getChars_ba4f3_55 : decode cJ2_getChars_ba4f3 55 = .ok (.invokestatic 111, 3) := do_b8 DJ2_getChars_ba4f3_55
theorem dJ2_getChars_ba4f3_58 : decode cJ2_getChars_ba4f3 58 = .ok (.aload_n 2, 1) := do_2c DJ2_getChars_ba4f3_58
theorem dJ2_getChars_ba4f3_59 : decode cJ2_getChars_ba4f3 59 = .ok (.iinc 5 (-1), 3) := do_84 DJ2_getChars_ba4f3_59
theorem dJ2_getChars_ba4f3_62 : decode cJ2_getChars_ba4f3 62 = .ok (.iload 5, 2) := do_15 DJ2_getChars_ba4f3_62
theorem dJ2_getChars_ba4f3_64 : decode cJ2_getChars_ba4f3 64 = .ok (.getstatic 407, 3) := do_b2 DJ2_getChars_ba4f3_64
theorem dJ2_getChars_ba4f3_67 : decode cJ2_getChars_ba4f3 67 = .ok (.iload 4, 2) := do_15 DJ2_getChars_ba4f3_67
theorem dJ2_getChars_ba4f3_69 : decode cJ2_getChars_ba4f3 69 = .ok (.baload, 1) := do_33 DJ2_getChars_ba4f3_69
theorem dJ2_getChars_ba4f3_70 : decode cJ2_getChars_ba4f3 70 = .ok (.invokestatic 111, 3) := do_b8 DJ2_getChars_ba4f3_70
theorem dJ2_getChars_ba4f3_73 : decode cJ2_getChars_ba4f3 73 = .ok (.goto (-51), 3) := do_a7 DJ2_getChars_ba4f3_73 (by decide +kernel)
theorem dJ2_getChars_ba4f3_76 : decode cJ2_getChars_ba4f3 76 = .ok (.aload_n 2, 1) := do_2c DJ2_getChars_ba4f3_76
theorem dJ2_getChars_ba4f3_77 : decode cJ2_getChars_ba4f3 77 = .ok (.iinc 5 (-1), 3) := do_84 DJ2_getChars_ba4f3_77
theorem dJ2_getChars_ba4f3_80 : decode cJ2_getChars_ba4f3 80 = .ok (.iload 5, 2) := do_15 DJ2_getChars_ba4f3_80
theorem dJ2_getChars_ba4f3_82 : decode cJ2_getChars_ba4f3 82 = .ok (.getstatic 403, 3) := do_b2 DJ2_getChars_ba4f3_82
theorem dJ2_getChars_ba4f3_85 : decode cJ2_getChars_ba4f3 85 = .ok (.iload_n 0, 1) := do_1a DJ2_getChars_ba4f3_85
theorem dJ2_getChars_ba4f3_86 : decode cJ2_getChars_ba4f3 86 = .ok (.ineg, 1) := do_74 DJ2_getChars_ba4f3_86
theorem dJ2_getChars_ba4f3_87 : decode cJ2_getChars_ba4f3 87 = .ok (.baload, 1) := do_33 DJ2_getChars_ba4f3_87
theorem dJ2_getChars_ba4f3_88 : decode cJ2_getChars_ba4f3 88 = .ok (.invokestatic 111, 3) := do_b8 DJ2_getChars_ba4f3_88
theorem dJ2_getChars_ba4f3_91 : decode cJ2_getChars_ba4f3 91 = .ok (.iload_n 0, 1) := do_1a DJ2_getChars_ba4f3_91
theorem dJ2_getChars_ba4f3_92 : decode cJ2_getChars_ba4f3 92 = .ok (.bipush (-9), 2) := do_10 DJ2_getChars_ba4f3_92 (by decide +kernel)
theorem dJ2_getChars_ba4f3_94 : decode cJ2_getChars_ba4f3 94 = .ok (.if_icmp .ge 18, 3) := do_a2 DJ2_getChars_ba4f3_94 (by decide +kernel)
theorem dJ2_getChars_ba4f3_97 : decode cJ2_getChars_ba4f3 97 = .ok (.aload_n 2, 1) := do_2c DJ2_getChars_ba4f3_97
theorem dJ2_getChars_ba4f3_98 : decode cJ2_getChars_ba4f3 98 = .ok (.iinc 5 (-1), 3) := do_84 DJ2_getChars_ba4f3_98
theorem dJ2_getChars_ba4f3_101 : decode cJ2_getChars_ba4f3 101 = .ok (.iload 5, 2) := do_15 DJ2_getChars_ba4f3_101
theorem dJ2_getChars_ba4f3_103 : decode cJ2_getChars_ba4f3 103 = .ok (.getstatic 407, 3) := do_b2 DJ2_getChars_ba4f3_103
theorem dJ2_getChars_ba4f3_106 : decode cJ2_getChars_ba4f3 106 = .ok (.iload_n 0, 1) := do_1a DJ2_getChars_ba4f3_106
theorem dJ2_getChars_ba4f3_107 : decode cJ2_getChars_ba4f3 107 = .ok (.ineg, 1) := do_74 DJ2_getChars_ba4f3_107
theorem dJ2_getChars_ba4f3_108 : decode cJ2_getChars_ba4f3 108 = .ok (.baload, 1) := do_33 DJ2_getChars_ba4f3_108
theorem dJ2_getChars_ba4f3_109 : decode cJ2_getChars_ba4f3 109 = .ok (.invokestatic 111, 3) := do_b8 DJ2_getChars_ba4f3_109
theorem dJ2_getChars_ba4f3_112 : decode cJ2_getChars_ba4f3 112 = .ok (.iload 6, 2) := do_15 DJ2_getChars_ba4f3_112
theorem dJ2_getChars_ba4f3_114 : decode cJ2_getChars_ba4f3 114 = .ok (.ifCond .eq 14, 3) := do_99 DJ2_getChars_ba4f3_114 (by decide +kernel)
theorem dJ2_getChars_ba4f3_117 : decode cJ2_getChars_ba4f3 117 = .ok (.aload_n 2, 1) := do_2c DJ2_getChars_ba4f3_117
theorem dJ2_getChars_ba4f3_118 : decode cJ2_getChars_ba4f3 118 = .ok (.iinc 5 (-1), 3) := do_84 DJ2_getChars_ba4f3_118
theorem dJ2_getChars_ba4f3_121 : decode cJ2_getChars_ba4f3 121 = .ok (.iload 5, 2) := do_15 DJ2_getChars_ba4f3_121
theorem dJ2_getChars_ba4f3_123 : decode cJ2_getChars_ba4f3 123 = .ok (.bipush 45, 2) := do_10 DJ2_getChars_ba4f3_123 (by decide +kernel)
theorem dJ2_getChars_ba4f3_125 : decode cJ2_getChars_ba4f3 125 = .ok (.invokestatic 111, 3) := do_b8 DJ2_getChars_ba4f3_125
theorem dJ2_getChars_ba4f3_128 : decode cJ2_getChars_ba4f3 128 = .ok (.iload 5, 2) := do_15 DJ2_getChars_ba4f3_128
theorem dJ2_getChars_ba4f3_130 : decode cJ2_getChars_ba4f3 130 = .ok (.ireturn, 1) := do_ac DJ2_getChars_ba4f3_130
def TJ2_checkIndex_2214a_9 : List UInt8 := []
def TJ2_checkIndex_2214a_8 : List UInt8 := 177 :: TJ2_checkIndex_2214a_9
def TJ2_checkIndex_2214a_5 : List UInt8 := 184 :: 1 :: 158 :: TJ2_checkIndex_2214a_8
def TJ2_checkIndex_2214a_2 : List UInt8 := 184 :: 0 :: 48 :: TJ2_checkIndex_2214a_5
def TJ2_checkIndex_2214a_1 : List UInt8 := 43 :: TJ2_checkIndex_2214a_2
def TJ2_checkIndex_2214a_0 : List UInt8 := 26 :: TJ2_checkIndex_2214a_1
theorem DJ2_checkIndex_2214a_0 : cJ2_checkIndex_2214a.data.toList.drop 0 = TJ2_checkIndex_2214a_0 := by decide +kernel
theorem DJ2_checkIndex_2214a_1 : cJ2_checkIndex_2214a.data.toList.drop 1 = TJ2_checkIndex_2214a_1 := dr1 DJ2_checkIndex_2214a_0
theorem DJ2_checkIndex_2214a_2 : cJ2_checkIndex_2214a.data.toList.drop 2 = TJ2_checkIndex_2214a_2 := dr1 DJ2_checkIndex_2214a_1
theorem DJ2_checkIndex_2214a_5 : cJ2_checkIndex_2214a.data.toList.drop 5 = TJ2_checkIndex_2214a_5 := dr3 DJ2_checkIndex_2214a_2
theorem DJ2_checkIndex_2214a_8 : cJ2_checkIndex_2214a.data.toList.drop 8 = TJ2_checkIndex_2214a_8 := dr3 DJ2_checkIndex_2214a_5
theorem dJ2_checkIndex_2214a_0 : decode cJ2_checkIndex_2214a 0 = .ok (.iload_n 0, 1) := do_1a DJ2_checkIndex_2214a_0
theorem dJ2_checkIndex_2214a_1 : decode cJ2_checkIndex_2214a 1 = .ok (.aload_n 1, 1) := do_2b DJ2_checkIndex_2214a_1
theorem dJ2_checkIndex_2214a_2 : decode cJ2_checkIndex_2214a 2 = .ok (.invokestatic 48, 3) := do_b8 DJ2_checkIndex_2214a_2
theorem dJ2_checkIndex_2214a_5 : decode cJ2_checkIndex_2214a 5 = .ok (.invokestatic 414, 3) := do_b8 DJ2_checkIndex_2214a_5
theorem dJ2_checkIndex_2214a_8 : decode cJ2_checkIndex_2214a 8 = .ok (.return_, 1) := do_b1 DJ2_checkIndex_2214a_8
def TJ2_checkOffset_2214a_9 : List UInt8 := []
def TJ2_checkOffset_2214a_8 : List UInt8 := 177 :: TJ2_checkOffset_2214a_9
def TJ2_checkOffset_2214a_5 : List UInt8 := 184 :: 1 :: 161 :: TJ2_checkOffset_2214a_8
def TJ2_checkOffset_2214a_2 : List UInt8 := 184 :: 0 :: 48 :: TJ2_checkOffset_2214a_5
def TJ2_checkOffset_2214a_1 : List UInt8 := 43 :: TJ2_checkOffset_2214a_2
def TJ2_checkOffset_2214a_0 : List UInt8 := 26 :: TJ2_checkOffset_2214a_1
theorem DJ2_checkOffset_2214a_0 : cJ2_checkOffset_2214a.data.toList.drop 0 = TJ2_checkOffset_2214a_0 := by decide +kernel
theorem DJ2_checkOffset_2214a_1 : cJ2_checkOffset_2214a.data.toList.drop 1 = TJ2_checkOffset_2214a_1 := dr1 DJ2_checkOffset_2214a_0
theorem DJ2_checkOffset_2214a_2 : cJ2_checkOffset_2214a.data.toList.drop 2 = TJ2_checkOffset_2214a_2 := dr1 DJ2_checkOffset_2214a_1
theorem DJ2_checkOffset_2214a_5 : cJ2_checkOffset_2214a.data.toList.drop 5 = TJ2_checkOffset_2214a_5 := dr3 DJ2_checkOffset_2214a_2
theorem DJ2_checkOffset_2214a_8 : cJ2_checkOffset_2214a.data.toList.drop 8 = TJ2_checkOffset_2214a_8 := dr3 DJ2_checkOffset_2214a_5
theorem dJ2_checkOffset_2214a_0 : decode cJ2_checkOffset_2214a 0 = .ok (.iload_n 0, 1) := do_1a DJ2_checkOffset_2214a_0
theorem dJ2_checkOffset_2214a_1 : decode cJ2_checkOffset_2214a 1 = .ok (.aload_n 1, 1) := do_2b DJ2_checkOffset_2214a_1
theorem dJ2_checkOffset_2214a_2 : decode cJ2_checkOffset_2214a 2 = .ok (.invokestatic 48, 3) := do_b8 DJ2_checkOffset_2214a_2
theorem dJ2_checkOffset_2214a_5 : decode cJ2_checkOffset_2214a 5 = .ok (.invokestatic 417, 3) := do_b8 DJ2_checkOffset_2214a_5
theorem dJ2_checkOffset_2214a_8 : decode cJ2_checkOffset_2214a 8 = .ok (.return_, 1) := do_b1 DJ2_checkOffset_2214a_8
def TJ2_checkBoundsBeginEnd_d044e_10 : List UInt8 := []
def TJ2_checkBoundsBeginEnd_d044e_9 : List UInt8 := 177 :: TJ2_checkBoundsBeginEnd_d044e_10
def TJ2_checkBoundsBeginEnd_d044e_6 : List UInt8 := 184 :: 0 :: 241 :: TJ2_checkBoundsBeginEnd_d044e_9
def TJ2_checkBoundsBeginEnd_d044e_3 : List UInt8 := 184 :: 0 :: 48 :: TJ2_checkBoundsBeginEnd_d044e_6
def TJ2_checkBoundsBeginEnd_d044e_2 : List UInt8 := 44 :: TJ2_checkBoundsBeginEnd_d044e_3
def TJ2_checkBoundsBeginEnd_d044e_1 : List UInt8 := 27 :: TJ2_checkBoundsBeginEnd_d044e_2
def TJ2_checkBoundsBeginEnd_d044e_0 : List UInt8 := 26 :: TJ2_checkBoundsBeginEnd_d044e_1
theorem DJ2_checkBoundsBeginEnd_d044e_0 : cJ2_checkBoundsBeginEnd_d044e.data.toList.drop 0 = TJ2_checkBoundsBeginEnd_d044e_0 := by decide +kernel
theorem DJ2_checkBoundsBeginEnd_d044e_1 : cJ2_checkBoundsBeginEnd_d044e.data.toList.drop 1 = TJ2_checkBoundsBeginEnd_d044e_1 := dr1 DJ2_checkBoundsBeginEnd_d044e_0
theorem DJ2_checkBoundsBeginEnd_d044e_2 : cJ2_checkBoundsBeginEnd_d044e.data.toList.drop 2 = TJ2_checkBoundsBeginEnd_d044e_2 := dr1 DJ2_checkBoundsBeginEnd_d044e_1
theorem DJ2_checkBoundsBeginEnd_d044e_3 : cJ2_checkBoundsBeginEnd_d044e.data.toList.drop 3 = TJ2_checkBoundsBeginEnd_d044e_3 := dr1 DJ2_checkBoundsBeginEnd_d044e_2
theorem DJ2_checkBoundsBeginEnd_d044e_6 : cJ2_checkBoundsBeginEnd_d044e.data.toList.drop 6 = TJ2_checkBoundsBeginEnd_d044e_6 := dr3 DJ2_checkBoundsBeginEnd_d044e_3
theorem DJ2_checkBoundsBeginEnd_d044e_9 : cJ2_checkBoundsBeginEnd_d044e.data.toList.drop 9 = TJ2_checkBoundsBeginEnd_d044e_9 := dr3 DJ2_checkBoundsBeginEnd_d044e_6
theorem dJ2_checkBoundsBeginEnd_d044e_0 : decode cJ2_checkBoundsBeginEnd_d044e 0 = .ok (.iload_n 0, 1) := do_1a DJ2_checkBoundsBeginEnd_d044e_0
theorem dJ2_checkBoundsBeginEnd_d044e_1 : decode cJ2_checkBoundsBeginEnd_d044e 1 = .ok (.iload_n 1, 1) := do_1b DJ2_checkBoundsBeginEnd_d044e_1
theorem dJ2_checkBoundsBeginEnd_d044e_2 : decode cJ2_checkBoundsBeginEnd_d044e 2 = .ok (.aload_n 2, 1) := do_2c DJ2_checkBoundsBeginEnd_d044e_2
theorem dJ2_checkBoundsBeginEnd_d044e_3 : decode cJ2_checkBoundsBeginEnd_d044e 3 = .ok (.invokestatic 48, 3) := do_b8 DJ2_checkBoundsBeginEnd_d044e_3
theorem dJ2_checkBoundsBeginEnd_d044e_6 : decode cJ2_checkBoundsBeginEnd_d044e 6 = .ok (.invokestatic 241, 3) := do_b8 DJ2_checkBoundsBeginEnd_d044e_6
theorem dJ2_checkBoundsBeginEnd_d044e_9 : decode cJ2_checkBoundsBeginEnd_d044e 9 = .ok (.return_, 1) := do_b1 DJ2_checkBoundsBeginEnd_d044e_9
def TJ2_checkBoundsOffCount_d044e_11 : List UInt8 := []
def TJ2_checkBoundsOffCount_d044e_10 : List UInt8 := 177 :: TJ2_checkBoundsOffCount_d044e_11
def TJ2_checkBoundsOffCount_d044e_9 : List UInt8 := 87 :: TJ2_checkBoundsOffCount_d044e_10
def TJ2_checkBoundsOffCount_d044e_6 : List UInt8 := 184 :: 1 :: 163 :: TJ2_checkBoundsOffCount_d044e_9
def TJ2_checkBoundsOffCount_d044e_3 : List UInt8 := 184 :: 0 :: 48 :: TJ2_checkBoundsOffCount_d044e_6
def TJ2_checkBoundsOffCount_d044e_2 : List UInt8 := 44 :: TJ2_checkBoundsOffCount_d044e_3
def TJ2_checkBoundsOffCount_d044e_1 : List UInt8 := 27 :: TJ2_checkBoundsOffCount_d044e_2
def TJ2_checkBoundsOffCount_d044e_0 : List UInt8 := 26 :: TJ2_checkBoundsOffCount_d044e_1
theorem DJ2_checkBoundsOffCount_d044e_0 : cJ2_checkBoundsOffCount_d044e.data.toList.drop 0 = TJ2_checkBoundsOffCount_d044e_0 := by decide +kernel
theorem DJ2_checkBoundsOffCount_d044e_1 : cJ2_checkBoundsOffCount_d044e.data.toList.drop 1 = TJ2_checkBoundsOffCount_d044e_1 := dr1 DJ2_checkBoundsOffCount_d044e_0
theorem DJ2_checkBoundsOffCount_d044e_2 : cJ2_checkBoundsOffCount_d044e.data.toList.drop 2 = TJ2_checkBoundsOffCount_d044e_2 := dr1 DJ2_checkBoundsOffCount_d044e_1
theorem DJ2_checkBoundsOffCount_d044e_3 : cJ2_checkBoundsOffCount_d044e.data.toList.drop 3 = TJ2_checkBoundsOffCount_d044e_3 := dr1 DJ2_checkBoundsOffCount_d044e_2
theorem DJ2_checkBoundsOffCount_d044e_6 : cJ2_checkBoundsOffCount_d044e.data.toList.drop 6 = TJ2_checkBoundsOffCount_d044e_6 := dr3 DJ2_checkBoundsOffCount_d044e_3
theorem DJ2_checkBoundsOffCount_d044e_9 : cJ2_checkBoundsOffCount_d044e.data.toList.drop 9 = TJ2_checkBoundsOffCount_d044e_9 := dr3 DJ2_checkBoundsOffCount_d044e_6
theorem DJ2_checkBoundsOffCount_d044e_10 : cJ2_checkBoundsOffCount_d044e.data.toList.drop 10 = TJ2_checkBoundsOffCount_d044e_10 := dr1 DJ2_checkBoundsOffCount_d044e_9
theorem dJ2_checkBoundsOffCount_d044e_0 : decode cJ2_checkBoundsOffCount_d044e 0 = .ok (.iload_n 0, 1) := do_1a DJ2_checkBoundsOffCount_d044e_0
theorem dJ2_checkBoundsOffCount_d044e_1 : decode cJ2_checkBoundsOffCount_d044e 1 = .ok (.iload_n 1, 1) := do_1b DJ2_checkBoundsOffCount_d044e_1
theorem dJ2_checkBoundsOffCount_d044e_2 : decode cJ2_checkBoundsOffCount_d044e 2 = .ok (.aload_n 2, 1) := do_2c DJ2_checkBoundsOffCount_d044e_2
theorem dJ2_checkBoundsOffCount_d044e_3 : decode cJ2_checkBoundsOffCount_d044e 3 = .ok (.invokestatic 48, 3) := do_b8 DJ2_checkBoundsOffCount_d044e_3
theorem dJ2_checkBoundsOffCount_d044e_6 : decode cJ2_checkBoundsOffCount_d044e 6 = .ok (.invokestatic 419, 3) := do_b8 DJ2_checkBoundsOffCount_d044e_6
theorem dJ2_checkBoundsOffCount_d044e_9 : decode cJ2_checkBoundsOffCount_d044e 9 = .ok (.pop, 1) := do_57 DJ2_checkBoundsOffCount_d044e_9
theorem dJ2_checkBoundsOffCount_d044e_10 : decode cJ2_checkBoundsOffCount_d044e 10 = .ok (.return_, 1) := do_b1 DJ2_checkBoundsOffCount_d044e_10
def TJ7_rangeCheck_23922_74 : List UInt8 := []
def TJ7_rangeCheck_23922_73 : List UInt8 := 177 :: TJ7_rangeCheck_23922_74
def TJ7_rangeCheck_23922_72 : List UInt8 := 191 :: TJ7_rangeCheck_23922_73
def TJ7_rangeCheck_23922_69 : List UInt8 := 183 :: 0 :: 70 :: TJ7_rangeCheck_23922_72
def TJ7_rangeCheck_23922_68 : List UInt8 := 28 :: TJ7_rangeCheck_23922_69
def TJ7_rangeCheck_23922_67 : List UInt8 := 89 :: TJ7_rangeCheck_23922_68
def TJ7_rangeCheck_23922_64 : List UInt8 := 187 :: 0 :: 68 :: TJ7_rangeCheck_23922_67
def TJ7_rangeCheck_23922_61 : List UInt8 := 164 :: 0 :: 12 :: TJ7_rangeCheck_23922_64
def TJ7_rangeCheck_23922_60 : List UInt8 := 26 :: TJ7_rangeCheck_23922_61
def TJ7_rangeCheck_23922_59 : List UInt8 := 28 :: TJ7_rangeCheck_23922_60
def TJ7_rangeCheck_23922_58 : List UInt8 := 191 :: TJ7_rangeCheck_23922_59
def TJ7_rangeCheck_23922_55 : List UInt8 := 183 :: 0 :: 70 :: TJ7_rangeCheck_23922_58
def TJ7_rangeCheck_23922_54 : List UInt8 := 27 :: TJ7_rangeCheck_23922_55
def TJ7_rangeCheck_23922_53 : List UInt8 := 89 :: TJ7_rangeCheck_23922_54
def TJ7_rangeCheck_23922_50 : List UInt8 := 187 :: 0 :: 68 :: TJ7_rangeCheck_23922_53
def TJ7_rangeCheck_23922_47 : List UInt8 := 156 :: 0 :: 12 :: TJ7_rangeCheck_23922_50
def TJ7_rangeCheck_23922_46 : List UInt8 := 27 :: TJ7_rangeCheck_23922_47
def TJ7_rangeCheck_23922_45 : List UInt8 := 191 :: TJ7_rangeCheck_23922_46
def TJ7_rangeCheck_23922_42 : List UInt8 := 183 :: 0 :: 65 :: TJ7_rangeCheck_23922_45
def TJ7_rangeCheck_23922_39 : List UInt8 := 182 :: 0 :: 61 :: TJ7_rangeCheck_23922_42
def TJ7_rangeCheck_23922_36 : List UInt8 := 182 :: 0 :: 50 :: TJ7_rangeCheck_23922_39
def TJ7_rangeCheck_23922_34 : List UInt8 := 18 :: 59 :: TJ7_rangeCheck_23922_36
def TJ7_rangeCheck_23922_31 : List UInt8 := 182 :: 0 :: 54 :: TJ7_rangeCheck_23922_34
def TJ7_rangeCheck_23922_30 : List UInt8 := 28 :: TJ7_rangeCheck_23922_31
def TJ7_rangeCheck_23922_27 : List UInt8 := 182 :: 0 :: 50 :: TJ7_rangeCheck_23922_30
def TJ7_rangeCheck_23922_25 : List UInt8 := 18 :: 57 :: TJ7_rangeCheck_23922_27
def TJ7_rangeCheck_23922_22 : List UInt8 := 182 :: 0 :: 54 :: TJ7_rangeCheck_23922_25
def TJ7_rangeCheck_23922_21 : List UInt8 := 27 :: TJ7_rangeCheck_23922_22
def TJ7_rangeCheck_23922_18 : List UInt8 := 182 :: 0 :: 50 :: TJ7_rangeCheck_23922_21
def TJ7_rangeCheck_23922_16 : List UInt8 := 18 :: 48 :: TJ7_rangeCheck_23922_18
def TJ7_rangeCheck_23922_13 : List UInt8 := 183 :: 0 :: 47 :: TJ7_rangeCheck_23922_16
def TJ7_rangeCheck_23922_12 : List UInt8 := 89 :: TJ7_rangeCheck_23922_13
def TJ7_rangeCheck_23922_9 : List UInt8 := 187 :: 0 :: 45 :: TJ7_rangeCheck_23922_12
def TJ7_rangeCheck_23922_8 : List UInt8 := 89 :: TJ7_rangeCheck_23922_9
def TJ7_rangeCheck_23922_5 : List UInt8 := 187 :: 0 :: 43 :: TJ7_rangeCheck_23922_8
def TJ7_rangeCheck_23922_2 : List UInt8 := 164 :: 0 :: 44 :: TJ7_rangeCheck_23922_5
def TJ7_rangeCheck_23922_1 : List UInt8 := 28 :: TJ7_rangeCheck_23922_2
def TJ7_rangeCheck_23922_0 : List UInt8 := 27 :: TJ7_rangeCheck_23922_1
theorem DJ7_rangeCheck_23922_0 : cJ7_rangeCheck_23922.data.toList.drop 0 = TJ7_rangeCheck_23922_0 := by decide +kernel
theorem DJ7_rangeCheck_23922_1 : cJ7_rangeCheck_23922.data.toList.drop 1 = TJ7_rangeCheck_23922_1 := dr1 DJ7_rangeCheck_23922_0
theorem DJ7_rangeCheck_23922_2 : cJ7_rangeCheck_23922.data.toList.drop 2 = TJ7_rangeCheck_23922_2 := dr1 DJ7_rangeCheck_23922_1
theorem DJ7_rangeCheck_23922_5 : cJ7_rangeCheck_23922.data.toList.drop 5 = TJ7_rangeCheck_23922_5 := dr3 DJ7_rangeCheck_23922_2
theorem DJ7_rangeCheck_23922_8 : cJ7_rangeCheck_23922.data.toList.drop 8 = TJ7_rangeCheck_23922_8 := dr3 DJ7_rangeCheck_23922_5
theorem DJ7_rangeCheck_23922_9 : cJ7_rangeCheck_23922.data.toList.drop 9 = TJ7_rangeCheck_23922_9 := dr1 DJ7_rangeCheck_23922_8
theorem DJ7_rangeCheck_23922_12 : cJ7_rangeCheck_23922.data.toList.drop 12 = TJ7_rangeCheck_23922_12 := dr3 DJ7_rangeCheck_23922_9
theorem DJ7_rangeCheck_23922_13 : cJ7_rangeCheck_23922.data.toList.drop 13 = TJ7_rangeCheck_23922_13 := dr1 DJ7_rangeCheck_23922_12
theorem DJ7_rangeCheck_23922_16 : cJ7_rangeCheck_23922.data.toList.drop 16 = TJ7_rangeCheck_23922_16 := dr3 DJ7_rangeCheck_23922_13
theorem DJ7_rangeCheck_23922_18 : cJ7_rangeCheck_23922.data.toList.drop 18 = TJ7_rangeCheck_23922_18 := dr2 DJ7_rangeCheck_23922_16
theorem DJ7_rangeCheck_23922_21 : cJ7_rangeCheck_23922.data.toList.drop 21 = TJ7_rangeCheck_23922_21 := dr3 DJ7_rangeCheck_23922_18
theorem DJ7_rangeCheck_23922_22 : cJ7_rangeCheck_23922.data.toList.drop 22 = TJ7_rangeCheck_23922_22 := dr1 DJ7_rangeCheck_23922_21
theorem DJ7_rangeCheck_23922_25 : cJ7_rangeCheck_23922.data.toList.drop 25 = TJ7_rangeCheck_23922_25 := dr3 DJ7_rangeCheck_23922_22
theorem DJ7_rangeCheck_23922_27 : cJ7_rangeCheck_23922.data.toList.drop 27 = TJ7_rangeCheck_23922_27 := dr2 DJ7_rangeCheck_23922_25
theorem DJ7_rangeCheck_23922_30 : cJ7_rangeCheck_23922.data.toList.drop 30 = TJ7_rangeCheck_23922_30 := dr3 DJ7_rangeCheck_23922_27
theorem DJ7_rangeCheck_23922_31 : cJ7_rangeCheck_23922.data.toList.drop 31 = TJ7_rangeCheck_23922_31 := dr1 DJ7_rangeCheck_23922_30
theorem DJ7_rangeCheck_23922_34 : cJ7_rangeCheck_23922.data.toList.drop 34 = TJ7_rangeCheck_23922_34 := dr3 DJ7_rangeCheck_23922_31
theorem DJ7_rangeCheck_23922_36 : cJ7_rangeCheck_23922.data.toList.drop 36 = TJ7_rangeCheck_23922_36 := dr2 DJ7_rangeCheck_23922_34
theorem DJ7_rangeCheck_23922_39 : cJ7_rangeCheck_23922.data.toList.drop 39 = TJ7_rangeCheck_23922_39 := dr3 DJ7_rangeCheck_23922_36
theorem DJ7_rangeCheck_23922_42 : cJ7_rangeCheck_23922.data.toList.drop 42 = TJ7_rangeCheck_23922_42 := dr3 DJ7_rangeCheck_23922_39
theorem DJ7_rangeCheck_23922_45 : cJ7_rangeCheck_23922.data.toList.drop 45 = TJ7_rangeCheck_23922_45 := dr3 DJ7_rangeCheck_23922_42
theorem DJ7_rangeCheck_23922_46 : cJ7_rangeCheck_23922.data.toList.drop 46 = TJ7_rangeCheck_23922_46 := dr1 DJ7_rangeCheck_23922_45
theorem DJ7_rangeCheck_23922_47 : cJ7_rangeCheck_23922.data.toList.drop 47 = TJ7_rangeCheck_23922_47 := dr1 DJ7_rangeCheck_23922_46
theorem DJ7_rangeCheck_23922_50 : cJ7_rangeCheck_23922.data.toList.drop 50 = TJ7_rangeCheck_23922_50 := dr3 DJ7_rangeCheck_23922_47
theorem DJ7_rangeCheck_23922_53 : cJ7_rangeCheck_23922.data.toList.drop 53 = TJ7_rangeCheck_23922_53 := dr3 DJ7_rangeCheck_23922_50
theorem DJ7_rangeCheck_23922_54 : cJ7_rangeCheck_23922.data.toList.drop 54 = TJ7_rangeCheck_23922_54 := dr1 DJ7_rangeCheck_23922_53
theorem DJ7_rangeCheck_23922_55 : cJ7_rangeCheck_23922.data.toList.drop 55 = TJ7_rangeCheck_23922_55 := dr1 DJ7_rangeCheck_23922_54
theorem DJ7_rangeCheck_23922_58 : cJ7_rangeCheck_23922.data.toList.drop 58 = TJ7_rangeCheck_23922_58 := dr3 DJ7_rangeCheck_23922_55
theorem DJ7_rangeCheck_23922_59 : cJ7_rangeCheck_23922.data.toList.drop 59 = TJ7_rangeCheck_23922_59 := dr1 DJ7_rangeCheck_23922_58
theorem DJ7_rangeCheck_23922_60 : cJ7_rangeCheck_23922.data.toList.drop 60 = TJ7_rangeCheck_23922_60 := dr1 DJ7_rangeCheck_23922_59
theorem DJ7_rangeCheck_23922_61 : cJ7_rangeCheck_23922.data.toList.drop 61 = TJ7_rangeCheck_23922_61 := dr1 DJ7_rangeCheck_23922_60
theorem DJ7_rangeCheck_23922_64 : cJ7_rangeCheck_23922.data.toList.drop 64 = TJ7_rangeCheck_23922_64 := dr3 DJ7_rangeCheck_23922_61
theorem DJ7_rangeCheck_23922_67 : cJ7_rangeCheck_23922.data.toList.drop 67 = TJ7_rangeCheck_23922_67 := dr3 DJ7_rangeCheck_23922_64
theorem DJ7_rangeCheck_23922_68 : cJ7_rangeCheck_23922.data.toList.drop 68 = TJ7_rangeCheck_23922_68 := dr1 DJ7_rangeCheck_23922_67
theorem DJ7_rangeCheck_23922_69 : cJ7_rangeCheck_23922.data.toList.drop 69 = TJ7_rangeCheck_23922_69 := dr1 DJ7_rangeCheck_23922_68
theorem DJ7_rangeCheck_23922_72 : cJ7_rangeCheck_23922.data.toList.drop 72 = TJ7_rangeCheck_23922_72 := dr3 DJ7_rangeCheck_23922_69
theorem DJ7_rangeCheck_23922_73 : cJ7_rangeCheck_23922.data.toList.drop 73 = TJ7_rangeCheck_23922_73 := dr1 DJ7_rangeCheck_23922_72
theorem dJ7_rangeCheck_23922_0 : decode cJ7_rangeCheck_23922 0 = .ok (.iload_n 1, 1) := do_1b DJ7_rangeCheck_23922_0
theorem dJ7_rangeCheck_23922_1 : decode cJ7_rangeCheck_23922 1 = .ok (.iload_n 2, 1) := do_1c DJ7_rangeCheck_23922_1
theorem dJ7_rangeCheck_23922_2 : decode cJ7_rangeCheck_23922 2 = .ok (.if_icmp .le 44, 3) := do_a4 DJ7_rangeCheck_23922_2 (by decide +kernel)
theorem dJ7_rangeCheck_23922_5 : decode cJ7_rangeCheck_23922 5 = .ok (.new 43, 3) := do_bb DJ7_rangeCheck_23922_5
theorem dJ7_rangeCheck_23922_8 : decode cJ7_rangeCheck_23922 8 = .ok (.dup, 1) := do_59 DJ7_rangeCheck_23922_8
theorem dJ7_rangeCheck_23922_9 : decode cJ7_rangeCheck_23922 9 = .ok (.new 45, 3) := do_bb DJ7_rangeCheck_23922_9
theorem dJ7_rangeCheck_23922_12 : decode cJ7_rangeCheck_23922 12 = .ok (.dup, 1) := do_59 DJ7_rangeCheck_23922_12
theorem dJ7_rangeCheck_23922_13 : decode cJ7_rangeCheck_23922 13 = .ok (.invokespecial 47, 3) := do_b7 DJ7_rangeCheck_23922_13
theorem dJ7_rangeCheck_23922_16 : decode cJ7_rangeCheck_23922 16 = .ok (.ldc 48, 2) := by decide +kernel
theorem dJ7_rangeCheck_23922_18 : decode cJ7_rangeCheck_23922 18 = .ok (.invokevirtual 50, 3) := do_b6 DJ7_rangeCheck_23922_18
theorem dJ7_rangeCheck_23922_21 : decode cJ7_rangeCheck_23922 21 = .ok (.iload_n 1, 1) := do_1b DJ7_rangeCheck_23922_21
theorem dJ7_rangeCheck_23922_22 : decode cJ7_rangeCheck_23922 22 = .ok (.invokevirtual 54, 3) := do_b6 DJ7_rangeCheck_23922_22
theorem dJ7_rangeCheck_23922_25 : decode cJ7_rangeCheck_23922 25 = .ok (.ldc 57, 2) := by decide +kernel
theorem dJ7_rangeCheck_23922_27 : decode cJ7_rangeCheck_23922 27 = .ok (.invokevirtual 50, 3) := do_b6 DJ7_rangeCheck_23922_27
theorem dJ7_rangeCheck_23922_30 : decode cJ7_rangeCheck_23922 30 = .ok (.iload_n 2, 1) := do_1c DJ7_rangeCheck_23922_30
theorem dJ7_rangeCheck_23922_31 : decode cJ7_rangeCheck_23922 31 = .ok (.invokevirtual 54, 3) := do_b6 DJ7_rangeCheck_23922_31
theorem dJ7_rangeCheck_23922_34 : decode cJ7_rangeCheck_23922 34 = .ok (.ldc 59, 2) := by decide +kernel
theorem dJ7_rangeCheck_23922_36 : decode cJ7_rangeCheck_23922 36 = .ok (.invokevirtual 50, 3) := do_b6 DJ7_rangeCheck_23922_36
theorem dJ7_rangeCheck_23922_39 : decode cJ7_rangeCheck_23922 39 = .ok (.invokevirtual 61, 3) := do_b6 DJ7_rangeCheck_23922_39
theorem dJ7_rangeCheck_23922_42 : decode cJ7_rangeCheck_23922 42 = .ok (.invokespecial 65, 3) := do_b7 DJ7_rangeCheck_23922_42
theorem dJ7_rangeCheck_23922_45 : decode cJ7_rangeCheck_23922 45 = .ok (.athrow, 1) := do_bf DJ7_rangeCheck_23922_45
theorem dJ7_rangeCheck_23922_46 : decode cJ7_rangeCheck_23922 46 = .ok (.iload_n 1, 1) := do_1b DJ7_rangeCheck_23922_46
theorem dJ7_rangeCheck_23922_47 : decode cJ7_rangeCheck_23922 47 = .ok (.ifCond .ge 12, 3) := do_9c DJ7_rangeCheck_23922_47 (by decide +kernel)
theorem dJ7_rangeCheck_23922_50 : decode cJ7_rangeCheck_23922 50 = .ok (.new 68, 3) := do_bb DJ7_rangeCheck_23922_50
theorem dJ7_rangeCheck_23922_53 : decode cJ7_rangeCheck_23922 53 = .ok (.dup, 1) := do_59 DJ7_rangeCheck_23922_53
theorem dJ7_rangeCheck_23922_54 : decode cJ7_rangeCheck_23922 54 = .ok (.iload_n 1, 1) := do_1b DJ7_rangeCheck_23922_54
theorem dJ7_rangeCheck_23922_55 : decode cJ7_rangeCheck_23922 55 = .ok (.invokespecial 70, 3) := do_b7 DJ7_rangeCheck_23922_55
theorem dJ7_rangeCheck_23922_58 : decode cJ7_rangeCheck_23922 58 = .ok (.athrow, 1) := do_bf DJ7_rangeCheck_23922_58
theorem dJ7_rangeCheck_23922_59 : decode cJ7_rangeCheck_23922 59 = .ok (.iload_n 2, 1) := do_1c DJ7_rangeCheck_23922_59
theorem dJ7_rangeCheck_23922_60 : decode cJ7_rangeCheck_23922 60 = .ok (.iload_n 0, 1) := do_1a DJ7_rangeCheck_23922_60
theorem dJ7_rangeCheck_23922_61 : decode cJ7_rangeCheck_23922 61 = .ok (.if_icmp .le 12, 3) := do_a4 DJ7_rangeCheck_23922_61 (by decide +kernel)
theorem dJ7_rangeCheck_23922_64 : decode cJ7_rangeCheck_23922 64 = .ok (.new 68, 3) := do_bb DJ7_rangeCheck_23922_64
theorem dJ7_rangeCheck_23922_67 : decode cJ7_rangeCheck_23922 67 = .ok (.dup, 1) := do_59 DJ7_rangeCheck_23922_67
theorem dJ7_rangeCheck_23922_68 : decode cJ7_rangeCheck_23922 68 = .ok (.iload_n 2, 1) := do_1c DJ7_rangeCheck_23922_68
theorem dJ7_rangeCheck_23922_69 : decode cJ7_rangeCheck_23922 69 = .ok (.invokespecial 70, 3) := do_b7 DJ7_rangeCheck_23922_69
theorem dJ7_rangeCheck_23922_72 : decode cJ7_rangeCheck_23922 72 = .ok (.athrow, 1) := do_bf DJ7_rangeCheck_23922_72
theorem dJ7_rangeCheck_23922_73 : decode cJ7_rangeCheck_23922 73 = .ok (.return_, 1) := do_b1 DJ7_rangeCheck_23922_73
def TJ7_fill_53178_21 : List UInt8 := []
def TJ7_fill_53178_20 : List UInt8 := 177 :: TJ7_fill_53178_21
def TJ7_fill_53178_17 : List UInt8 := 167 :: 255 :: 244 :: TJ7_fill_53178_20
def TJ7_fill_53178_14 : List UInt8 := 132 :: 2 :: 1 :: TJ7_fill_53178_17
def TJ7_fill_53178_13 : List UInt8 := 79 :: TJ7_fill_53178_14
def TJ7_fill_53178_12 : List UInt8 := 27 :: TJ7_fill_53178_13
def TJ7_fill_53178_11 : List UInt8 := 28 :: TJ7_fill_53178_12
def TJ7_fill_53178_10 : List UInt8 := 42 :: TJ7_fill_53178_11
def TJ7_fill_53178_7 : List UInt8 := 162 :: 0 :: 13 :: TJ7_fill_53178_10
def TJ7_fill_53178_6 : List UInt8 := 29 :: TJ7_fill_53178_7
def TJ7_fill_53178_5 : List UInt8 := 28 :: TJ7_fill_53178_6
def TJ7_fill_53178_4 : List UInt8 := 62 :: TJ7_fill_53178_5
def TJ7_fill_53178_3 : List UInt8 := 190 :: TJ7_fill_53178_4
def TJ7_fill_53178_2 : List UInt8 := 42 :: TJ7_fill_53178_3
def TJ7_fill_53178_1 : List UInt8 := 61 :: TJ7_fill_53178_2
def TJ7_fill_53178_0 : List UInt8 := 3 :: TJ7_fill_53178_1
theorem DJ7_fill_53178_0 : cJ7_fill_53178.data.toList.drop 0 = TJ7_fill_53178_0 := by decide +kernel
theorem DJ7_fill_53178_1 : cJ7_fill_53178.data.toList.drop 1 = TJ7_fill_53178_1 := dr1 DJ7_fill_53178_0
theorem DJ7_fill_53178_2 : cJ7_fill_53178.data.toList.drop 2 = TJ7_fill_53178_2 := dr1 DJ7_fill_53178_1
theorem DJ7_fill_53178_3 : cJ7_fill_53178.data.toList.drop 3 = TJ7_fill_53178_3 := dr1 DJ7_fill_53178_2
theorem DJ7_fill_53178_4 : cJ7_fill_53178.data.toList.drop 4 = TJ7_fill_53178_4 := dr1 DJ7_fill_53178_3
theorem DJ7_fill_53178_5 : cJ7_fill_53178.data.toList.drop 5 = TJ7_fill_53178_5 := dr1 DJ7_fill_53178_4
theorem DJ7_fill_53178_6 : cJ7_fill_53178.data.toList.drop 6 = TJ7_fill_53178_6 := dr1 DJ7_fill_53178_5
theorem DJ7_fill_53178_7 : cJ7_fill_53178.data.toList.drop 7 = TJ7_fill_53178_7 := dr1 DJ7_fill_53178_6
theorem DJ7_fill_53178_10 : cJ7_fill_53178.data.toList.drop 10 = TJ7_fill_53178_10 := dr3 DJ7_fill_53178_7
theorem DJ7_fill_53178_11 : cJ7_fill_53178.data.toList.drop 11 = TJ7_fill_53178_11 := dr1 DJ7_fill_53178_10
theorem DJ7_fill_53178_12 : cJ7_fill_53178.data.toList.drop 12 = TJ7_fill_53178_12 := dr1 DJ7_fill_53178_11
theorem DJ7_fill_53178_13 : cJ7_fill_53178.data.toList.drop 13 = TJ7_fill_53178_13 := dr1 DJ7_fill_53178_12
theorem DJ7_fill_53178_14 : cJ7_fill_53178.data.toList.drop 14 = TJ7_fill_53178_14 := dr1 DJ7_fill_53178_13
theorem DJ7_fill_53178_17 : cJ7_fill_53178.data.toList.drop 17 = TJ7_fill_53178_17 := dr3 DJ7_fill_53178_14
theorem DJ7_fill_53178_20 : cJ7_fill_53178.data.toList.drop 20 = TJ7_fill_53178_20 := dr3 DJ7_fill_53178_17
theorem dJ7_fill_53178_0 : decode cJ7_fill_53178 0 = .ok (.iconst 0, 1) := do_03 DJ7_fill_53178_0
theorem dJ7_fill_53178_1 : decode cJ7_fill_53178 1 = .ok (.istore_n 2, 1) := do_3d DJ7_fill_53178_1
theorem dJ7_fill_53178_2 : decode cJ7_fill_53178 2 = .ok (.aload_n 0, 1) := do_2a DJ7_fill_53178_2
theorem dJ7_fill_53178_3 : decode cJ7_fill_53178 3 = .ok (.arraylength, 1) := do_be DJ7_fill_53178_3
theorem dJ7_fill_53178_4 : decode cJ7_fill_53178 4 = .ok (.istore_n 3, 1) := do_3e DJ7_fill_53178_4
theorem dJ7_fill_53178_5 : decode cJ7_fill_53178 5 = .ok (.iload_n 2, 1) := do_1c DJ7_fill_53178_5
theorem dJ7_fill_53178_6 : decode cJ7_fill_53178 6 = .ok (.iload_n 3, 1) := do_1d DJ7_fill_53178_6
theorem dJ7_fill_53178_7 : decode cJ7_fill_53178 7 = .ok (.if_icmp .ge 13, 3) := do_a2 DJ7_fill_53178_7 (by decide +kernel)
theorem dJ7_fill_53178_10 : decode cJ7_fill_53178 10 = .ok (.aload_n 0, 1) := do_2a DJ7_fill_53178_10
theorem dJ7_fill_53178_11 : decode cJ7_fill_53178 11 = .ok (.iload_n 2, 1) := do_1c DJ7_fill_53178_11
theorem dJ7_fill_53178_12 : decode cJ7_fill_53178 12 = .ok (.iload_n 1, 1) := do_1b DJ7_fill_53178_12
theorem dJ7_fill_53178_13 : decode cJ7_fill_53178 13 = .ok (.iastore, 1) := do_4f DJ7_fill_53178_13
theorem dJ7_fill_53178_14 : decode cJ7_fill_53178 14 = .ok (.iinc 2 1, 3) := do_84 DJ7_fill_53178_14
theorem dJ7_fill_53178_17 : decode cJ7_fill_53178 17 = .ok (.goto (-12), 3) := do_a7 DJ7_fill_53178_17 (by decide +kernel)
theorem dJ7_fill_53178_20 : decode cJ7_fill_53178 20 = .ok (.return_, 1) := do_b1 DJ7_fill_53178_20
def TJ7_fill_eb02e_28 : List UInt8 := []
def TJ7_fill_eb02e_27 : List UInt8 := 177 :: TJ7_fill_eb02e_28
def TJ7_fill_eb02e_24 : List UInt8 := 167 :: 255 :: 242 :: TJ7_fill_eb02e_27
def TJ7_fill_eb02e_21 : List UInt8 := 132 :: 4 :: 1 :: TJ7_fill_eb02e_24
def TJ7_fill_eb02e_20 : List UInt8 := 84 :: TJ7_fill_eb02e_21
def TJ7_fill_eb02e_19 : List UInt8 := 29 :: TJ7_fill_eb02e_20
def TJ7_fill_eb02e_17 : List UInt8 := 21 :: 4 :: TJ7_fill_eb02e_19
def TJ7_fill_eb02e_16 : List UInt8 := 42 :: TJ7_fill_eb02e_17
def TJ7_fill_eb02e_13 : List UInt8 := 162 :: 0 :: 14 :: TJ7_fill_eb02e_16
def TJ7_fill_eb02e_12 : List UInt8 := 28 :: TJ7_fill_eb02e_13
def TJ7_fill_eb02e_10 : List UInt8 := 21 :: 4 :: TJ7_fill_eb02e_12
def TJ7_fill_eb02e_8 : List UInt8 := 54 :: 4 :: TJ7_fill_eb02e_10
def TJ7_fill_eb02e_7 : List UInt8 := 27 :: TJ7_fill_eb02e_8
def TJ7_fill_eb02e_4 : List UInt8 := 184 :: 0 :: 13 :: TJ7_fill_eb02e_7
def TJ7_fill_eb02e_3 : List UInt8 := 28 :: TJ7_fill_eb02e_4
def TJ7_fill_eb02e_2 : List UInt8 := 27 :: TJ7_fill_eb02e_3
def TJ7_fill_eb02e_1 : List UInt8 := 190 :: TJ7_fill_eb02e_2
def TJ7_fill_eb02e_0 : List UInt8 := 42 :: TJ7_fill_eb02e_1
theorem DJ7_fill_eb02e_0 : cJ7_fill_eb02e.data.toList.drop 0 = TJ7_fill_eb02e_0 := by decide +kernel
theorem DJ7_fill_eb02e_1 : cJ7_fill_eb02e.data.toList.drop 1 = TJ7_fill_eb02e_1 := dr1 DJ7_fill_eb02e_0
theorem DJ7_fill_eb02e_2 : cJ7_fill_eb02e.data.toList.drop 2 = TJ7_fill_eb02e_2 := dr1 DJ7_fill_eb02e_1
theorem DJ7_fill_eb02e_3 : cJ7_fill_eb02e.data.toList.drop 3 = TJ7_fill_eb02e_3 := dr1 DJ7_fill_eb02e_2
theorem DJ7_fill_eb02e_4 : cJ7_fill_eb02e.data.toList.drop 4 = TJ7_fill_eb02e_4 := dr1 DJ7_fill_eb02e_3
theorem DJ7_fill_eb02e_7 : cJ7_fill_eb02e.data.toList.drop 7 = TJ7_fill_eb02e_7 := dr3 DJ7_fill_eb02e_4
theorem DJ7_fill_eb02e_8 : cJ7_fill_eb02e.data.toList.drop 8 = TJ7_fill_eb02e_8 := dr1 DJ7_fill_eb02e_7
theorem DJ7_fill_eb02e_10 : cJ7_fill_eb02e.data.toList.drop 10 = TJ7_fill_eb02e_10 := dr2 DJ7_fill_eb02e_8
theorem DJ7_fill_eb02e_12 : cJ7_fill_eb02e.data.toList.drop 12 = TJ7_fill_eb02e_12 := dr2 DJ7_fill_eb02e_10
theorem DJ7_fill_eb02e_13 : cJ7_fill_eb02e.data.toList.drop 13 = TJ7_fill_eb02e_13 := dr1 DJ7_fill_eb02e_12
theorem DJ7_fill_eb02e_16 : cJ7_fill_eb02e.data.toList.drop 16 = TJ7_fill_eb02e_16 := dr3 DJ7_fill_eb02e_13
theorem DJ7_fill_eb02e_17 : cJ7_fill_eb02e.data.toList.drop 17 = TJ7_fill_eb02e_17 := dr1 DJ7_fill_eb02e_16
theorem DJ7_fill_eb02e_19 : cJ7_fill_eb02e.data.toList.drop 19 = TJ7_fill_eb02e_19 := dr2 DJ7_fill_eb02e_17
theorem DJ7_fill_eb02e_20 : cJ7_fill_eb02e.data.toList.drop 20 = TJ7_fill_eb02e_20 := dr1 DJ7_fill_eb02e_19
theorem DJ7_fill_eb02e_21 : cJ7_fill_eb02e.data.toList.drop 21 = TJ7_fill_eb02e_21 := dr1 DJ7_fill_eb02e_20
theorem DJ7_fill_eb02e_24 : cJ7_fill_eb02e.data.toList.drop 24 = TJ7_fill_eb02e_24 := dr3 DJ7_fill_eb02e_21
theorem DJ7_fill_eb02e_27 : cJ7_fill_eb02e.data.toList.drop 27 = TJ7_fill_eb02e_27 := dr3 DJ7_fill_eb02e_24
theorem dJ7_fill_eb02e_0 : decode cJ7_fill_eb02e 0 = .ok (.aload_n 0, 1) := do_2a DJ7_fill_eb02e_0
theorem dJ7_fill_eb02e_1 : decode cJ7_fill_eb02e 1 = .ok (.arraylength, 1) := do_be DJ7_fill_eb02e_1
theorem dJ7_fill_eb02e_2 : decode cJ7_fill_eb02e 2 = .ok (.iload_n 1, 1) := do_1b DJ7_fill_eb02e_2
theorem dJ7_fill_eb02e_3 : decode cJ7_fill_eb02e 3 = .ok (.iload_n 2, 1) := do_1c DJ7_fill_eb02e_3
theorem dJ7_fill_eb02e_4 : decode cJ7_fill_eb02e 4 = .ok (.invokestatic 13, 3) := do_b8 DJ7_fill_eb02e_4
theorem dJ7_fill_eb02e_7 : decode cJ7_fill_eb02e 7 = .ok (.iload_n 1, 1) := do_1b DJ7_fill_eb02e_7
theorem dJ7_fill_eb02e_8 : decode cJ7_fill_eb02e 8 = .ok (.istore 4, 2) := do_36 DJ7_fill_eb02e_8
theorem dJ7_fill_eb02e_10 : decode cJ7_fill_eb02e 10 = .ok (.iload 4, 2) := do_15 DJ7_fill_eb02e_10
theorem dJ7_fill_eb02e_12 : decode cJ7_fill_eb02e 12 = .ok (.iload_n 2, 1) := do_1c DJ7_fill_eb02e_12
theorem dJ7_fill_eb02e_13 : decode cJ7_fill_eb02e 13 = .ok (.if_icmp .ge 14, 3) := do_a2 DJ7_fill_eb02e_13 (by decide +kernel)
theorem dJ7_fill_eb02e_16 : decode cJ7_fill_eb02e 16 = .ok (.aload_n 0, 1) := do_2a DJ7_fill_eb02e_16
theorem dJ7_fill_eb02e_17 : decode cJ7_fill_eb02e 17 = .ok (.iload 4, 2) := do_15 DJ7_fill_eb02e_17
theorem dJ7_fill_eb02e_19 : decode cJ7_fill_eb02e 19 = .ok (.iload_n 3, 1) := do_1d DJ7_fill_eb02e_19
theorem dJ7_fill_eb02e_20 : decode cJ7_fill_eb02e 20 = .ok (.bastore, 1) := do_54 DJ7_fill_eb02e_20
theorem dJ7_fill_eb02e_21 : decode cJ7_fill_eb02e 21 = .ok (.iinc 4 1, 3) := do_84 DJ7_fill_eb02e_21
theorem dJ7_fill_eb02e_24 : decode cJ7_fill_eb02e 24 = .ok (.goto (-14), 3) := do_a7 DJ7_fill_eb02e_24 (by decide +kernel)
theorem dJ7_fill_eb02e_27 : decode cJ7_fill_eb02e 27 = .ok (.return_, 1) := do_b1 DJ7_fill_eb02e_27
def TJ7_copyOf_9075b_33 : List UInt8 := []
def TJ7_copyOf_9075b_32 : List UInt8 := 176 :: TJ7_copyOf_9075b_33
def TJ7_copyOf_9075b_31 : List UInt8 := 44 :: TJ7_copyOf_9075b_32
def TJ7_copyOf_9075b_28 : List UInt8 := 184 :: 0 :: 150 :: TJ7_copyOf_9075b_31
def TJ7_copyOf_9075b_25 : List UInt8 := 184 :: 1 :: 48 :: TJ7_copyOf_9075b_28
def TJ7_copyOf_9075b_24 : List UInt8 := 27 :: TJ7_copyOf_9075b_25
def TJ7_copyOf_9075b_23 : List UInt8 := 190 :: TJ7_copyOf_9075b_24
def TJ7_copyOf_9075b_22 : List UInt8 := 42 :: TJ7_copyOf_9075b_23
def TJ7_copyOf_9075b_21 : List UInt8 := 3 :: TJ7_copyOf_9075b_22
def TJ7_copyOf_9075b_20 : List UInt8 := 44 :: TJ7_copyOf_9075b_21
def TJ7_copyOf_9075b_19 : List UInt8 := 3 :: TJ7_copyOf_9075b_20
def TJ7_copyOf_9075b_18 : List UInt8 := 42 :: TJ7_copyOf_9075b_19
def TJ7_copyOf_9075b_17 : List UInt8 := 77 :: TJ7_copyOf_9075b_18
def TJ7_copyOf_9075b_15 : List UInt8 := 188 :: 8 :: TJ7_copyOf_9075b_17
def TJ7_copyOf_9075b_14 : List UInt8 := 27 :: TJ7_copyOf_9075b_15
def TJ7_copyOf_9075b_13 : List UInt8 := 176 :: TJ7_copyOf_9075b_14
def TJ7_copyOf_9075b_10 : List UInt8 := 192 :: 1 :: 55 :: TJ7_copyOf_9075b_13
def TJ7_copyOf_9075b_7 : List UInt8 := 182 :: 1 :: 54 :: TJ7_copyOf_9075b_10
def TJ7_copyOf_9075b_6 : List UInt8 := 42 :: TJ7_copyOf_9075b_7
def TJ7_copyOf_9075b_3 : List UInt8 := 160 :: 0 :: 11 :: TJ7_copyOf_9075b_6
def TJ7_copyOf_9075b_2 : List UInt8 := 190 :: TJ7_copyOf_9075b_3
def TJ7_copyOf_9075b_1 : List UInt8 := 42 :: TJ7_copyOf_9075b_2
def TJ7_copyOf_9075b_0 : List UInt8 := 27 :: TJ7_copyOf_9075b_1
theorem DJ7_copyOf_9075b_0 : cJ7_copyOf_9075b.data.toList.drop 0 = TJ7_copyOf_9075b_0 := by decide +kernel
theorem DJ7_copyOf_9075b_1 : cJ7_copyOf_9075b.data.toList.drop 1 = TJ7_copyOf_9075b_1 := dr1 DJ7_copyOf_9075b_0
theorem DJ7_copyOf_9075b_2 : cJ7_copyOf_9075b.data.toList.drop 2 = TJ7_copyOf_9075b_2 := dr1 DJ7_copyOf_9075b_1
theorem DJ7_copyOf_9075b_3 : cJ7_copyOf_9075b.data.toList.drop 3 = TJ7_copyOf_9075b_3 := dr1 DJ7_copyOf_9075b_2
theorem DJ7_copyOf_9075b_6 : cJ7_copyOf_9075b.data.toList.drop 6 = TJ7_copyOf_9075b_6 := dr3 DJ7_copyOf_9075b_3
theorem DJ7_copyOf_9075b_7 : cJ7_copyOf_9075b.data.toList.drop 7 = TJ7_copyOf_9075b_7 := dr1 DJ7_copyOf_9075b_6
theorem DJ7_copyOf_9075b_10 : cJ7_copyOf_9075b.data.toList.drop 10 = TJ7_copyOf_9075b_10 := dr3 DJ7_copyOf_9075b_7
theorem DJ7_copyOf_9075b_13 : cJ7_copyOf_9075b.data.toList.drop 13 = TJ7_copyOf_9075b_13 := dr3 DJ7_copyOf_9075b_10
theorem DJ7_copyOf_9075b_14 : cJ7_copyOf_9075b.data.toList.drop 14 = TJ7_copyOf_9075b_14 := dr1 DJ7_copyOf_9075b_13
theorem DJ7_copyOf_9075b_15 : cJ7_copyOf_9075b.data.toList.drop 15 = TJ7_copyOf_9075b_15 := dr1 DJ7_copyOf_9075b_14
theorem DJ7_copyOf_9075b_17 : cJ7_copyOf_9075b.data.toList.drop 17 = TJ7_copyOf_9075b_17 := dr2 DJ7_copyOf_9075b_15
theorem DJ7_copyOf_9075b_18 : cJ7_copyOf_9075b.data.toList.drop 18 = TJ7_copyOf_9075b_18 := dr1 DJ7_copyOf_9075b_17
theorem DJ7_copyOf_9075b_19 : cJ7_copyOf_9075b.data.toList.drop 19 = TJ7_copyOf_9075b_19 := dr1 DJ7_copyOf_9075b_18
theorem DJ7_copyOf_9075b_20 : cJ7_copyOf_9075b.data.toList.drop 20 = TJ7_copyOf_9075b_20 := dr1 DJ7_copyOf_9075b_19
theorem DJ7_copyOf_9075b_21 : cJ7_copyOf_9075b.data.toList.drop 21 = TJ7_copyOf_9075b_21 := dr1 DJ7_copyOf_9075b_20
theorem DJ7_copyOf_9075b_22 : cJ7_copyOf_9075b.data.toList.drop 22 = TJ7_copyOf_9075b_22 := dr1 DJ7_copyOf_9075b_21
theorem DJ7_copyOf_9075b_23 : cJ7_copyOf_9075b.data.toList.drop 23 = TJ7_copyOf_9075b_23 := dr1 DJ7_copyOf_9075b_22
theorem DJ7_copyOf_9075b_24 : cJ7_copyOf_9075b.data.toList.drop 24 = TJ7_copyOf_9075b_24 := dr1 DJ7_copyOf_9075b_23
theorem DJ7_copyOf_9075b_25 : cJ7_copyOf_9075b.data.toList.drop 25 = TJ7_copyOf_9075b_25 := dr1 DJ7_copyOf_9075b_24
theorem DJ7_copyOf_9075b_28 : cJ7_copyOf_9075b.data.toList.drop 28 = TJ7_copyOf_9075b_28 := dr3 DJ7_copyOf_9075b_25
theorem DJ7_copyOf_9075b_31 : cJ7_copyOf_9075b.data.toList.drop 31 = TJ7_copyOf_9075b_31 := dr3 DJ7_copyOf_9075b_28
theorem DJ7_copyOf_9075b_32 : cJ7_copyOf_9075b.data.toList.drop 32 = TJ7_copyOf_9075b_32 := dr1 DJ7_copyOf_9075b_31
theorem dJ7_copyOf_9075b_0 : decode cJ7_copyOf_9075b 0 = .ok (.iload_n 1, 1) := do_1b DJ7_copyOf_9075b_0
theorem dJ7_copyOf_9075b_1 : decode cJ7_copyOf_9075b 1 = .ok (.aload_n 0, 1) := do_2a DJ7_copyOf_9075b_1
theorem dJ7_copyOf_9075b_2 : decode cJ7_copyOf_9075b 2 = .ok (.arraylength, 1) := do_be DJ7_copyOf_9075b_2
theorem dJ7_copyOf_9075b_3 : decode cJ7_copyOf_9075b 3 = .ok (.if_icmp .ne 11, 3) := do_a0 DJ7_copyOf_9075b_3 (by decide +kernel)
theorem dJ7_copyOf_9075b_6 : decode cJ7_copyOf_9075b 6 = .ok (.aload_n 0, 1) := do_2a DJ7_copyOf_9075b_6
theorem dJ7_copyOf_9075b_7 : decode cJ7_copyOf_9075b 7 = .ok (.invokevirtual 310, 3) := do_b6 DJ7_copyOf_9075b_7
theorem dJ7_copyOf_9075b_10 : decode cJ7_copyOf_9075b 10 = .ok (.checkcast 311, 3) := do_c0 DJ7_copyOf_9075b_10
theorem dJ7_copyOf_9075b_13 : decode cJ7_copyOf_9075b 13 = .ok (.areturn, 1) := do_b0 DJ7_copyOf_9075b_13
theorem dJ7_copyOf_9075b_14 : decode cJ7_copyOf_9075b 14 = .ok (.iload_n 1, 1) := do_1b DJ7_copyOf_9075b_14
theorem dJ7_copyOf_9075b_15 : decode cJ7_copyOf_9075b 15 = .ok (.newarray .byte, 2) := by decide +kernel
theorem dJ7_copyOf_9075b_17 : decode cJ7_copyOf_9075b 17 = .ok (.astore_n 2, 1) := do_4d DJ7_copyOf_9075b_17
theorem dJ7_copyOf_9075b_18 : decode cJ7_copyOf_9075b 18 = .ok (.aload_n 0, 1) := do_2a DJ7_copyOf_9075b_18
theorem dJ7_copyOf_9075b_19 : decode cJ7_copyOf_9075b 19 = .ok (.iconst 0, 1) := do_03 DJ7_copyOf_9075b_19
theorem dJ7_copyOf_9075b_20 : decode cJ7_copyOf_9075b 20 = .ok (.aload_n 2, 1) := do_2c DJ7_copyOf_9075b_20
theorem dJ7_copyOf_9075b_21 : decode cJ7_copyOf_9075b 21 = .ok (.iconst 0, 1) := do_03 DJ7_copyOf_9075b_21
theorem dJ7_copyOf_9075b_22 : decode cJ7_copyOf_9075b 22 = .ok (.aload_n 0, 1) := do_2a DJ7_copyOf_9075b_22
theorem dJ7_copyOf_9075b_23 : decode cJ7_copyOf_9075b 23 = .ok (.arraylength, 1) := do_be DJ7_copyOf_9075b_23
theorem dJ7_copyOf_9075b_24 : decode cJ7_copyOf_9075b 24 = .ok (.iload_n 1, 1) := do_1b DJ7_copyOf_9075b_24
theorem dJ7_copyOf_9075b_25 : decode cJ7_copyOf_9075b 25 = .ok (.invokestatic 304, 3) := do_b8 DJ7_copyOf_9075b_25
theorem dJ7_copyOf_9075b_28 : decode cJ7_copyOf_9075b 28 = .ok (.invokestatic 150, 3) := do_b8 DJ7_copyOf_9075b_28
theorem dJ7_copyOf_9075b_31 : decode cJ7_copyOf_9075b 31 = .ok (.aload_n 2, 1) := do_2c DJ7_copyOf_9075b_31
theorem dJ7_copyOf_9075b_32 : decode cJ7_copyOf_9075b 32 = .ok (.areturn, 1) := do_b0 DJ7_copyOf_9075b_32
def TJ7_checkLength_df160_38 : List UInt8 := []
def TJ7_checkLength_df160_37 : List UInt8 := 177 :: TJ7_checkLength_df160_38
def TJ7_checkLength_df160_36 : List UInt8 := 191 :: TJ7_checkLength_df160_37
def TJ7_checkLength_df160_33 : List UInt8 := 183 :: 0 :: 65 :: TJ7_checkLength_df160_36
def TJ7_checkLength_df160_30 : List UInt8 := 182 :: 0 :: 61 :: TJ7_checkLength_df160_33
def TJ7_checkLength_df160_27 : List UInt8 := 182 :: 0 :: 54 :: TJ7_checkLength_df160_30
def TJ7_checkLength_df160_26 : List UInt8 := 27 :: TJ7_checkLength_df160_27
def TJ7_checkLength_df160_23 : List UInt8 := 182 :: 0 :: 50 :: TJ7_checkLength_df160_26
def TJ7_checkLength_df160_20 : List UInt8 := 19 :: 1 :: 81 :: TJ7_checkLength_df160_23
def TJ7_checkLength_df160_17 : List UInt8 := 182 :: 0 :: 54 :: TJ7_checkLength_df160_20
def TJ7_checkLength_df160_16 : List UInt8 := 26 :: TJ7_checkLength_df160_17
def TJ7_checkLength_df160_13 : List UInt8 := 183 :: 0 :: 47 :: TJ7_checkLength_df160_16
def TJ7_checkLength_df160_12 : List UInt8 := 89 :: TJ7_checkLength_df160_13
def TJ7_checkLength_df160_9 : List UInt8 := 187 :: 0 :: 45 :: TJ7_checkLength_df160_12
def TJ7_checkLength_df160_8 : List UInt8 := 89 :: TJ7_checkLength_df160_9
def TJ7_checkLength_df160_5 : List UInt8 := 187 :: 0 :: 43 :: TJ7_checkLength_df160_8
def TJ7_checkLength_df160_2 : List UInt8 := 162 :: 0 :: 35 :: TJ7_checkLength_df160_5
def TJ7_checkLength_df160_1 : List UInt8 := 26 :: TJ7_checkLength_df160_2
def TJ7_checkLength_df160_0 : List UInt8 := 27 :: TJ7_checkLength_df160_1
theorem DJ7_checkLength_df160_0 : cJ7_checkLength_df160.data.toList.drop 0 = TJ7_checkLength_df160_0 := by decide +kernel
theorem DJ7_checkLength_df160_1 : cJ7_checkLength_df160.data.toList.drop 1 = TJ7_checkLength_df160_1 := dr1 DJ7_checkLength_df160_0
theorem DJ7_checkLength_df160_2 : cJ7_checkLength_df160.data.toList.drop 2 = TJ7_checkLength_df160_2 := dr1 DJ7_checkLength_df160_1
theorem DJ7_checkLength_df160_5 : cJ7_checkLength_df160.data.toList.drop 5 = TJ7_checkLength_df160_5 := dr3 DJ7_checkLength_df160_2
theorem DJ7_checkLength_df160_8 : cJ7_checkLength_df160.data.toList.drop 8 = TJ7_checkLength_df160_8 := dr3 DJ7_checkLength_df160_5
theorem DJ7_checkLength_df160_9 : cJ7_checkLength_df160.data.toList.drop 9 = TJ7_checkLength_df160_9 := dr1 DJ7_checkLength_df160_8
theorem DJ7_checkLength_df160_12 : cJ7_checkLength_df160.data.toList.drop 12 = TJ7_checkLength_df160_12 := dr3 DJ7_checkLength_df160_9
theorem DJ7_checkLength_df160_13 : cJ7_checkLength_df160.data.toList.drop 13 = TJ7_checkLength_df160_13 := dr1 DJ7_checkLength_df160_12
theorem DJ7_checkLength_df160_16 : cJ7_checkLength_df160.data.toList.drop 16 = TJ7_checkLength_df160_16 := dr3 DJ7_checkLength_df160_13
theorem DJ7_checkLength_df160_17 : cJ7_checkLength_df160.data.toList.drop 17 = TJ7_checkLength_df160_17 := dr1 DJ7_checkLength_df160_16
theorem DJ7_checkLength_df160_20 : cJ7_checkLength_df160.data.toList.drop 20 = TJ7_checkLength_df160_20 := dr3 DJ7_checkLength_df160_17
theorem DJ7_checkLength_df160_23 : cJ7_checkLength_df160.data.toList.drop 23 = TJ7_checkLength_df160_23 := dr3 DJ7_checkLength_df160_20
theorem DJ7_checkLength_df160_26 : cJ7_checkLength_df160.data.toList.drop 26 = TJ7_checkLength_df160_26 := dr3 DJ7_checkLength_df160_23
theorem DJ7_checkLength_df160_27 : cJ7_checkLength_df160.data.toList.drop 27 = TJ7_checkLength_df160_27 := dr1 DJ7_checkLength_df160_26
theorem DJ7_checkLength_df160_30 : cJ7_checkLength_df160.data.toList.drop 30 = TJ7_checkLength_df160_30 := dr3 DJ7_checkLength_df160_27
theorem DJ7_checkLength_df160_33 : cJ7_checkLength_df160.data.toList.drop 33 = TJ7_checkLength_df160_33 := dr3 DJ7_checkLength_df160_30
theorem DJ7_checkLength_df160_36 : cJ7_checkLength_df160.data.toList.drop 36 = TJ7_checkLength_df160_36 := dr3 DJ7_checkLength_df160_33
theorem DJ7_checkLength_df160_37 : cJ7_checkLength_df160.data.toList.drop 37 = TJ7_checkLength_df160_37 := dr1 DJ7_checkLength_df160_36
theorem dJ7_checkLength_df160_0 : decode cJ7_checkLength_df160 0 = .ok (.iload_n 1, 1) := do_1b DJ7_checkLength_df160_0
theorem dJ7_checkLength_df160_1 : decode cJ7_checkLength_df160 1 = .ok (.iload_n 0, 1) := do_1a DJ7_checkLength_df160_1
theorem dJ7_checkLength_df160_2 : decode cJ7_checkLength_df160 2 = .ok (.if_icmp .ge 35, 3) := do_a2 DJ7_checkLength_df160_2 (by decide +kernel)
theorem dJ7_checkLength_df160_5 : decode cJ7_checkLength_df160 5 = .ok (.new 43, 3) := do_bb DJ7_checkLength_df160_5
theorem dJ7_checkLength_df160_8 : decode cJ7_checkLength_df160 8 = .ok (.dup, 1) := do_59 DJ7_checkLength_df160_8
theorem dJ7_checkLength_df160_9 : decode cJ7_checkLength_df160 9 = .ok (.new 45, 3) := do_bb DJ7_checkLength_df160_9
theorem dJ7_checkLength_df160_12 : decode cJ7_checkLength_df160 12 = .ok (.dup, 1) := do_59 DJ7_checkLength_df160_12
theorem dJ7_checkLength_df160_13 : decode cJ7_checkLength_df160 13 = .ok (.invokespecial 47, 3) := do_b7 DJ7_checkLength_df160_13
theorem dJ7_checkLength_df160_16 : decode cJ7_checkLength_df160 16 = .ok (.iload_n 0, 1) := do_1a DJ7_checkLength_df160_16
theorem dJ7_checkLength_df160_17 : decode cJ7_checkLength_df160 17 = .ok (.invokevirtual 54, 3) := do_b6 DJ7_checkLength_df160_17
theorem dJ7_checkLength_df160_20 : decode cJ7_checkLength_df160 20 = .ok (.ldc_w 337, 3) := do_13 DJ7_checkLength_df160_20
theorem dJ7_checkLength_df160_23 : decode cJ7_checkLength_df160 23 = .ok (.invokevirtual 50, 3) := do_b6 DJ7_checkLength_df160_23
theorem dJ7_checkLength_df160_26 : decode cJ7_checkLength_df160 26 = .ok (.iload_n 1, 1) := do_1b DJ7_checkLength_df160_26
theorem dJ7_checkLength_df160_27 : decode cJ7_checkLength_df160 27 = .ok (.invokevirtual 54, 3) := do_b6 DJ7_checkLength_df160_27
theorem dJ7_checkLength_df160_30 : decode cJ7_checkLength_df160 30 = .ok (.invokevirtual 61, 3) := do_b6 DJ7_checkLength_df160_30
theorem dJ7_checkLength_df160_33 : decode cJ7_checkLength_df160 33 = .ok (.invokespecial 65, 3) := do_b7 DJ7_checkLength_df160_33
theorem dJ7_checkLength_df160_36 : decode cJ7_checkLength_df160 36 = .ok (.athrow, 1) := do_bf DJ7_checkLength_df160_36
theorem dJ7_checkLength_df160_37 : decode cJ7_checkLength_df160 37 = .ok (.return_, 1) := do_b1 DJ7_checkLength_df160_37
def TJ7_copyOfRange_39247_25 : List UInt8 := []
def TJ7_copyOfRange_39247_24 : List UInt8 := 176 :: TJ7_copyOfRange_39247_25
def TJ7_copyOfRange_39247_21 : List UInt8 := 192 :: 1 :: 55 :: TJ7_copyOfRange_39247_24
def TJ7_copyOfRange_39247_18 : List UInt8 := 182 :: 1 :: 54 :: TJ7_copyOfRange_39247_21
def TJ7_copyOfRange_39247_17 : List UInt8 := 42 :: TJ7_copyOfRange_39247_18
def TJ7_copyOfRange_39247_16 : List UInt8 := 176 :: TJ7_copyOfRange_39247_17
def TJ7_copyOfRange_39247_13 : List UInt8 := 184 :: 1 :: 83 :: TJ7_copyOfRange_39247_16
def TJ7_copyOfRange_39247_12 : List UInt8 := 28 :: TJ7_copyOfRange_39247_13
def TJ7_copyOfRange_39247_11 : List UInt8 := 27 :: TJ7_copyOfRange_39247_12
def TJ7_copyOfRange_39247_10 : List UInt8 := 42 :: TJ7_copyOfRange_39247_11
def TJ7_copyOfRange_39247_7 : List UInt8 := 159 :: 0 :: 10 :: TJ7_copyOfRange_39247_10
def TJ7_copyOfRange_39247_6 : List UInt8 := 190 :: TJ7_copyOfRange_39247_7
def TJ7_copyOfRange_39247_5 : List UInt8 := 42 :: TJ7_copyOfRange_39247_6
def TJ7_copyOfRange_39247_4 : List UInt8 := 28 :: TJ7_copyOfRange_39247_5
def TJ7_copyOfRange_39247_1 : List UInt8 := 154 :: 0 :: 9 :: TJ7_copyOfRange_39247_4
def TJ7_copyOfRange_39247_0 : List UInt8 := 27 :: TJ7_copyOfRange_39247_1
theorem DJ7_copyOfRange_39247_0 : cJ7_copyOfRange_39247.data.toList.drop 0 = TJ7_copyOfRange_39247_0 := by decide +kernel
theorem DJ7_copyOfRange_39247_1 : cJ7_copyOfRange_39247.data.toList.drop 1 = TJ7_copyOfRange_39247_1 := dr1 DJ7_copyOfRange_39247_0
theorem DJ7_copyOfRange_39247_4 : cJ7_copyOfRange_39247.data.toList.drop 4 = TJ7_copyOfRange_39247_4 := dr3 DJ7_copyOfRange_39247_1
theorem DJ7_copyOfRange_39247_5 : cJ7_copyOfRange_39247.data.toList.drop 5 = TJ7_copyOfRange_39247_5 := dr1 DJ7_copyOfRange_39247_4
theorem DJ7_copyOfRange_39247_6 : cJ7_copyOfRange_39247.data.toList.drop 6 = TJ7_copyOfRange_39247_6 := dr1 DJ7_copyOfRange_39247_5
theorem DJ7_copyOfRange_39247_7 : cJ7_copyOfRange_39247.data.toList.drop 7 = TJ7_copyOfRange_39247_7 := dr1 DJ7_copyOfRange_39247_6
theorem DJ7_copyOfRange_39247_10 : cJ7_copyOfRange_39247.data.toList.drop 10 = TJ7_copyOfRange_39247_10 := dr3 DJ7_copyOfRange_39247_7
theorem DJ7_copyOfRange_39247_11 : cJ7_copyOfRange_39247.data.toList.drop 11 = TJ7_copyOfRange_39247_11 := dr1 DJ7_copyOfRange_39247_10
theorem DJ7_copyOfRange_39247_12 : cJ7_copyOfRange_39247.data.toList.drop 12 = TJ7_copyOfRange_39247_12 := dr1 DJ7_copyOfRange_39247_11
theorem DJ7_copyOfRange_39247_13 : cJ7_copyOfRange_39247.data.toList.drop 13 = TJ7_copyOfRange_39247_13 := dr1 DJ7_copyOfRange_39247_12
theorem DJ7_copyOfRange_39247_16 : cJ7_copyOfRange_39247.data.toList.drop 16 = TJ7_copyOfRange_39247_16 := dr3 DJ7_copyOfRange_39247_13
theorem DJ7_copyOfRange_39247_17 : cJ7_copyOfRange_39247.data.toList.drop 17 = TJ7_copyOfRange_39247_17 := dr1 DJ7_copyOfRange_39247_16
theorem DJ7_copyOfRange_39247_18 : cJ7_copyOfRange_39247.data.toList.drop 18 = TJ7_copyOfRange_39247_18 := dr1 DJ7_copyOfRange_39247_17
theorem DJ7_copyOfRange_39247_21 : cJ7_copyOfRange_39247.data.toList.drop 21 = TJ7_copyOfRange_39247_21 := dr3 DJ7_copyOfRange_39247_18
theorem DJ7_copyOfRange_39247_24 : cJ7_copyOfRange_39247.data.toList.drop 24 = TJ7_copyOfRange_39247_24 := dr3 DJ7_copyOfRange_39247_21
theorem dJ7_copyOfRange_39247_0 : decode cJ7_copyOfRange_39247 0 = .ok (.iload_n 1, 1) := do_1b DJ7_copyOfRange_39247_0
theorem dJ7_copyOfRange_39247_1 : decode cJ7_copyOfRange_39247 1 = .ok (.ifCond .ne 9, 3) := do_9a DJ7_copyOfRange_39247_1 (by decide +kernel)
theorem dJ7_copyOfRange_39247_4 : decode cJ7_copyOfRange_39247 4 = .ok (.iload_n 2, 1) := do_1c DJ7_copyOfRange_39247_4
theorem dJ7_copyOfRange_39247_5 : decode cJ7_copyOfRange_39247 5 = .ok (.aload_n 0, 1) := do_2a DJ7_copyOfRange_39247_5
theorem dJ7_copyOfRange_39247_6 : decode cJ7_copyOfRange_39247 6 = .ok (.arraylength, 1) := do_be DJ7_copyOfRange_39247_6
theorem dJ7_copyOfRange_39247_7 : decode cJ7_copyOfRange_39247 7 = .ok (.if_icmp .eq 10, 3) := do_9f DJ7_copyOfRange_39247_7 (by decide +kernel)
theorem dJ7_copyOfRange_39247_10 : decode cJ7_copyOfRange_39247 10 = .ok (.aload_n 0, 1) := do_2a DJ7_copyOfRange_39247_10
theorem dJ7_copyOfRange_39247_11 : decode cJ7_copyOfRange_39247 11 = .ok (.iload_n 1, 1) := do_1b DJ7_copyOfRange_39247_11
theorem dJ7_copyOfRange_39247_12 : decode cJ7_copyOfRange_39247 12 = .ok (.iload_n 2, 1) := do_1c DJ7_copyOfRange_39247_12
theorem dJ7_copyOfRange_39247_13 : decode cJ7_copyOfRange_39247 13 = .ok (.invokestatic 339, 3) := do_b8 DJ7_copyOfRange_39247_13
theorem dJ7_copyOfRange_39247_16 : decode cJ7_copyOfRange_39247 16 = .ok (.areturn, 1) := do_b0 DJ7_copyOfRange_39247_16
theorem dJ7_copyOfRange_39247_17 : decode cJ7_copyOfRange_39247 17 = .ok (.aload_n 0, 1) := do_2a DJ7_copyOfRange_39247_17
theorem dJ7_copyOfRange_39247_18 : decode cJ7_copyOfRange_39247 18 = .ok (.invokevirtual 310, 3) := do_b6 DJ7_copyOfRange_39247_18
theorem dJ7_copyOfRange_39247_21 : decode cJ7_copyOfRange_39247 21 = .ok (.checkcast 311, 3) := do_c0 DJ7_copyOfRange_39247_21
theorem dJ7_copyOfRange_39247_24 : decode cJ7_copyOfRange_39247 24 = .ok (.areturn, 1) := do_b0 DJ7_copyOfRange_39247_24
def TJ7_copyOfRangeByte_39247_33 : List UInt8 := []
def TJ7_copyOfRangeByte_39247_32 : List UInt8 := 176 :: TJ7_copyOfRangeByte_39247_33
def TJ7_copyOfRangeByte_39247_30 : List UInt8 := 25 :: 4 :: TJ7_copyOfRangeByte_39247_32
def TJ7_copyOfRangeByte_39247_27 : List UInt8 := 184 :: 0 :: 150 :: TJ7_copyOfRangeByte_39247_30
def TJ7_copyOfRangeByte_39247_24 : List UInt8 := 184 :: 1 :: 48 :: TJ7_copyOfRangeByte_39247_27
def TJ7_copyOfRangeByte_39247_23 : List UInt8 := 29 :: TJ7_copyOfRangeByte_39247_24
def TJ7_copyOfRangeByte_39247_22 : List UInt8 := 100 :: TJ7_copyOfRangeByte_39247_23
def TJ7_copyOfRangeByte_39247_21 : List UInt8 := 27 :: TJ7_copyOfRangeByte_39247_22
def TJ7_copyOfRangeByte_39247_20 : List UInt8 := 190 :: TJ7_copyOfRangeByte_39247_21
def TJ7_copyOfRangeByte_39247_19 : List UInt8 := 42 :: TJ7_copyOfRangeByte_39247_20
def TJ7_copyOfRangeByte_39247_18 : List UInt8 := 3 :: TJ7_copyOfRangeByte_39247_19
def TJ7_copyOfRangeByte_39247_16 : List UInt8 := 25 :: 4 :: TJ7_copyOfRangeByte_39247_18
def TJ7_copyOfRangeByte_39247_15 : List UInt8 := 27 :: TJ7_copyOfRangeByte_39247_16
def TJ7_copyOfRangeByte_39247_14 : List UInt8 := 42 :: TJ7_copyOfRangeByte_39247_15
def TJ7_copyOfRangeByte_39247_12 : List UInt8 := 58 :: 4 :: TJ7_copyOfRangeByte_39247_14
def TJ7_copyOfRangeByte_39247_10 : List UInt8 := 188 :: 8 :: TJ7_copyOfRangeByte_39247_12
def TJ7_copyOfRangeByte_39247_9 : List UInt8 := 29 :: TJ7_copyOfRangeByte_39247_10
def TJ7_copyOfRangeByte_39247_8 : List UInt8 := 62 :: TJ7_copyOfRangeByte_39247_9
def TJ7_copyOfRangeByte_39247_7 : List UInt8 := 100 :: TJ7_copyOfRangeByte_39247_8
def TJ7_copyOfRangeByte_39247_6 : List UInt8 := 27 :: TJ7_copyOfRangeByte_39247_7
def TJ7_copyOfRangeByte_39247_5 : List UInt8 := 28 :: TJ7_copyOfRangeByte_39247_6
def TJ7_copyOfRangeByte_39247_2 : List UInt8 := 184 :: 1 :: 87 :: TJ7_copyOfRangeByte_39247_5
def TJ7_copyOfRangeByte_39247_1 : List UInt8 := 28 :: TJ7_copyOfRangeByte_39247_2
def TJ7_copyOfRangeByte_39247_0 : List UInt8 := 27 :: TJ7_copyOfRangeByte_39247_1
theorem DJ7_copyOfRangeByte_39247_0 : cJ7_copyOfRangeByte_39247.data.toList.drop 0 = TJ7_copyOfRangeByte_39247_0 := by decide +kernel
theorem DJ7_copyOfRangeByte_39247_1 : cJ7_copyOfRangeByte_39247.data.toList.drop 1 = TJ7_copyOfRangeByte_39247_1 := dr1 DJ7_copyOfRangeByte_39247_0
theorem DJ7_copyOfRangeByte_39247_2 : cJ7_copyOfRangeByte_39247.data.toList.drop 2 = TJ7_copyOfRangeByte_39247_2 := dr1 DJ7_copyOfRangeByte_39247_1
theorem DJ7_copyOfRangeByte_39247_5 : cJ7_copyOfRangeByte_39247.data.toList.drop 5 = TJ7_copyOfRangeByte_39247_5 := dr3 DJ7_copyOfRangeByte_39247_2
theorem DJ7_copyOfRangeByte_39247_6 : cJ7_copyOfRangeByte_39247.data.toList.drop 6 = TJ7_copyOfRangeByte_39247_6 := dr1 DJ7_copyOfRangeByte_39247_5
theorem DJ7_copyOfRangeByte_39247_7 : cJ7_copyOfRangeByte_39247.data.toList.drop 7 = TJ7_copyOfRangeByte_39247_7 := dr1 DJ7_copyOfRangeByte_39247_6
theorem DJ7_copyOfRangeByte_39247_8 : cJ7_copyOfRangeByte_39247.data.toList.drop 8 = TJ7_copyOfRangeByte_39247_8 := dr1 DJ7_copyOfRangeByte_39247_7
theorem DJ7_copyOfRangeByte_39247_9 : cJ7_copyOfRangeByte_39247.data.toList.drop 9 = TJ7_copyOfRangeByte_39247_9 := dr1 DJ7_copyOfRangeByte_39247_8
theorem DJ7_copyOfRangeByte_39247_10 : cJ7_copyOfRangeByte_39247.data.toList.drop 10 = TJ7_copyOfRangeByte_39247_10 := dr1 DJ7_copyOfRangeByte_39247_9
theorem DJ7_copyOfRangeByte_39247_12 : cJ7_copyOfRangeByte_39247.data.toList.drop 12 = TJ7_copyOfRangeByte_39247_12 := dr2 DJ7_copyOfRangeByte_39247_10
theorem DJ7_copyOfRangeByte_39247_14 : cJ7_copyOfRangeByte_39247.data.toList.drop 14 = TJ7_copyOfRangeByte_39247_14 := dr2 DJ7_copyOfRangeByte_39247_12
theorem DJ7_copyOfRangeByte_39247_15 : cJ7_copyOfRangeByte_39247.data.toList.drop 15 = TJ7_copyOfRangeByte_39247_15 := dr1 DJ7_copyOfRangeByte_39247_14
theorem DJ7_copyOfRangeByte_39247_16 : cJ7_copyOfRangeByte_39247.data.toList.drop 16 = TJ7_copyOfRangeByte_39247_16 := dr1 DJ7_copyOfRangeByte_39247_15
theorem DJ7_copyOfRangeByte_39247_18 : cJ7_copyOfRangeByte_39247.data.toList.drop 18 = TJ7_copyOfRangeByte_39247_18 := dr2 DJ7_copyOfRangeByte_39247_16
theorem DJ7_copyOfRangeByte_39247_19 : cJ7_copyOfRangeByte_39247.data.toList.drop 19 = TJ7_copyOfRangeByte_39247_19 := dr1 DJ7_copyOfRangeByte_39247_18
theorem DJ7_copyOfRangeByte_39247_20 : cJ7_copyOfRangeByte_39247.data.toList.drop 20 = TJ7_copyOfRangeByte_39247_20 := dr1 DJ7_copyOfRangeByte_39247_19
theorem DJ7_copyOfRangeByte_39247_21 : cJ7_copyOfRangeByte_39247.data.toList.drop 21 = TJ7_copyOfRangeByte_39247_21 := dr1 DJ7_copyOfRangeByte_39247_20
theorem DJ7_copyOfRangeByte_39247_22 : cJ7_copyOfRangeByte_39247.data.toList.drop 22 = TJ7_copyOfRangeByte_39247_22 := dr1 DJ7_copyOfRangeByte_39247_21
theorem DJ7_copyOfRangeByte_39247_23 : cJ7_copyOfRangeByte_39247.data.toList.drop 23 = TJ7_copyOfRangeByte_39247_23 := dr1 DJ7_copyOfRangeByte_39247_22
theorem DJ7_copyOfRangeByte_39247_24 : cJ7_copyOfRangeByte_39247.data.toList.drop 24 = TJ7_copyOfRangeByte_39247_24 := dr1 DJ7_copyOfRangeByte_39247_23
theorem DJ7_copyOfRangeByte_39247_27 : cJ7_copyOfRangeByte_39247.data.toList.drop 27 = TJ7_copyOfRangeByte_39247_27 := dr3 DJ7_copyOfRangeByte_39247_24
theorem DJ7_copyOfRangeByte_39247_30 : cJ7_copyOfRangeByte_39247.data.toList.drop 30 = TJ7_copyOfRangeByte_39247_30 := dr3 DJ7_copyOfRangeByte_39247_27
theorem DJ7_copyOfRangeByte_39247_32 : cJ7_copyOfRangeByte_39247.data.toList.drop 32 = TJ7_copyOfRangeByte_39247_32 := dr2 DJ7_copyOfRangeByte_39247_30
theorem dJ7_copyOfRangeByte_39247_0 : decode cJ7_copyOfRangeByte_39247 0 = .ok (.iload_n 1, 1) := do_1b DJ7_copyOfRangeByte_39247_0
theorem dJ7_copyOfRangeByte_39247_1 : decode cJ7_copyOfRangeByte_39247 1 = .ok (.iload_n 2, 1) := do_1c DJ7_copyOfRangeByte_39247_1
theorem dJ7_copyOfRangeByte_39247_2 : decode cJ7_copyOfRangeByte_39247 2 = .ok (.invokestatic 343, 3) := do_b8 DJ7_copyOfRangeByte_39247_2
theorem dJ7_copyOfRangeByte_39247_5 : decode cJ7_copyOfRangeByte_39247 5 = .ok (.iload_n 2, 1) := do_1c DJ7_copyOfRangeByte_39247_5
theorem dJ7_copyOfRangeByte_39247_6 : decode cJ7_copyOfRangeByte_39247 6 = .ok (.iload_n 1, 1) := do_1b DJ7_copyOfRangeByte_39247_6
theorem dJ7_copyOfRangeByte_39247_7 : decode cJ7_copyOfRangeByte_39247 7 = .ok (.isub, 1) := do_64 DJ7_copyOfRangeByte_39247_7
theorem dJ7_copyOfRangeByte_39247_8 : decode cJ7_copyOfRangeByte_39247 8 = .ok (.istore_n 3, 1) := do_3e DJ7_copyOfRangeByte_39247_8
theorem dJ7_copyOfRangeByte_39247_9 : decode cJ7_copyOfRangeByte_39247 9 = .ok (.iload_n 3, 1) := do_1d DJ7_copyOfRangeByte_39247_9
theorem dJ7_copyOfRangeByte_39247_10 : decode cJ7_copyOfRangeByte_39247 10 = .ok (.newarray .byte, 2) := by decide +kernel
theorem dJ7_copyOfRangeByte_39247_12 : decode cJ7_copyOfRangeByte_39247 12 = .ok (.astore 4, 2) := do_3a DJ7_copyOfRangeByte_39247_12
theorem dJ7_copyOfRangeByte_39247_14 : decode cJ7_copyOfRangeByte_39247 14 = .ok (.aload_n 0, 1) := do_2a DJ7_copyOfRangeByte_39247_14
theorem dJ7_copyOfRangeByte_39247_15 : decode cJ7_copyOfRangeByte_39247 15 = .ok (.iload_n 1, 1) := do_1b DJ7_copyOfRangeByte_39247_15
theorem dJ7_copyOfRangeByte_39247_16 : decode cJ7_copyOfRangeByte_39247 16 = .ok (.aload 4, 2) := do_19 DJ7_copyOfRangeByte_39247_16
theorem dJ7_copyOfRangeByte_39247_18 : decode cJ7_copyOfRangeByte_39247 18 = .ok (.iconst 0, 1) := do_03 DJ7_copyOfRangeByte_39247_18
theorem dJ7_copyOfRangeByte_39247_19 : decode cJ7_copyOfRangeByte_39247 19 = .ok (.aload_n 0, 1) := do_2a DJ7_copyOfRangeByte_39247_19
theorem dJ7_copyOfRangeByte_39247_20 : decode cJ7_copyOfRangeByte_39247 20 = .ok (.arraylength, 1) := do_be DJ7_copyOfRangeByte_39247_20
theorem dJ7_copyOfRangeByte_39247_21 : decode cJ7_copyOfRangeByte_39247 21 = .ok (.iload_n 1, 1) := do_1b DJ7_copyOfRangeByte_39247_21
theorem dJ7_copyOfRangeByte_39247_22 : decode cJ7_copyOfRangeByte_39247 22 = .ok (.isub, 1) := do_64 DJ7_copyOfRangeByte_39247_22
theorem dJ7_copyOfRangeByte_39247_23 : decode cJ7_copyOfRangeByte_39247 23 = .ok (.iload_n 3, 1) := do_1d DJ7_copyOfRangeByte_39247_23
theorem dJ7_copyOfRangeByte_39247_24 : decode cJ7_copyOfRangeByte_39247 24 = .ok (.invokestatic 304, 3) := do_b8 DJ7_copyOfRangeByte_39247_24
theorem dJ7_copyOfRangeByte_39247_27 : decode cJ7_copyOfRangeByte_39247 27 = .ok (.invokestatic 150, 3) := do_b8 DJ7_copyOfRangeByte_39247_27
theorem dJ7_copyOfRangeByte_39247_30 : decode cJ7_copyOfRangeByte_39247 30 = .ok (.aload 4, 2) := do_19 DJ7_copyOfRangeByte_39247_30
theorem dJ7_copyOfRangeByte_39247_32 : decode cJ7_copyOfRangeByte_39247 32 = .ok (.areturn, 1) := do_b0 DJ7_copyOfRangeByte_39247_32
def TJ8_newLength_cabcc_27 : List UInt8 := []
def TJ8_newLength_cabcc_26 : List UInt8 := 172 :: TJ8_newLength_cabcc_27
def TJ8_newLength_cabcc_23 : List UInt8 := 184 :: 0 :: 201 :: TJ8_newLength_cabcc_26
def TJ8_newLength_cabcc_22 : List UInt8 := 27 :: TJ8_newLength_cabcc_23
def TJ8_newLength_cabcc_21 : List UInt8 := 26 :: TJ8_newLength_cabcc_22
def TJ8_newLength_cabcc_20 : List UInt8 := 172 :: TJ8_newLength_cabcc_21
def TJ8_newLength_cabcc_19 : List UInt8 := 29 :: TJ8_newLength_cabcc_20
def TJ8_newLength_cabcc_16 : List UInt8 := 163 :: 0 :: 5 :: TJ8_newLength_cabcc_19
def TJ8_newLength_cabcc_14 : List UInt8 := 18 :: 200 :: TJ8_newLength_cabcc_16
def TJ8_newLength_cabcc_13 : List UInt8 := 29 :: TJ8_newLength_cabcc_14
def TJ8_newLength_cabcc_10 : List UInt8 := 162 :: 0 :: 11 :: TJ8_newLength_cabcc_13
def TJ8_newLength_cabcc_9 : List UInt8 := 29 :: TJ8_newLength_cabcc_10
def TJ8_newLength_cabcc_8 : List UInt8 := 3 :: TJ8_newLength_cabcc_9
def TJ8_newLength_cabcc_7 : List UInt8 := 62 :: TJ8_newLength_cabcc_8
def TJ8_newLength_cabcc_6 : List UInt8 := 96 :: TJ8_newLength_cabcc_7
def TJ8_newLength_cabcc_3 : List UInt8 := 184 :: 0 :: 194 :: TJ8_newLength_cabcc_6
def TJ8_newLength_cabcc_2 : List UInt8 := 28 :: TJ8_newLength_cabcc_3
def TJ8_newLength_cabcc_1 : List UInt8 := 27 :: TJ8_newLength_cabcc_2
def TJ8_newLength_cabcc_0 : List UInt8 := 26 :: TJ8_newLength_cabcc_1
theorem DJ8_newLength_cabcc_0 : cJ8_newLength_cabcc.data.toList.drop 0 = TJ8_newLength_cabcc_0 := by decide +kernel
theorem DJ8_newLength_cabcc_1 : cJ8_newLength_cabcc.data.toList.drop 1 = TJ8_newLength_cabcc_1 := dr1 DJ8_newLength_cabcc_0
theorem DJ8_newLength_cabcc_2 : cJ8_newLength_cabcc.data.toList.drop 2 = TJ8_newLength_cabcc_2 := dr1 DJ8_newLength_cabcc_1
theorem DJ8_newLength_cabcc_3 : cJ8_newLength_cabcc.data.toList.drop 3 = TJ8_newLength_cabcc_3 := dr1 DJ8_newLength_cabcc_2
theorem DJ8_newLength_cabcc_6 : cJ8_newLength_cabcc.data.toList.drop 6 = TJ8_newLength_cabcc_6 := dr3 DJ8_newLength_cabcc_3
theorem DJ8_newLength_cabcc_7 : cJ8_newLength_cabcc.data.toList.drop 7 = TJ8_newLength_cabcc_7 := dr1 DJ8_newLength_cabcc_6
theorem DJ8_newLength_cabcc_8 : cJ8_newLength_cabcc.data.toList.drop 8 = TJ8_newLength_cabcc_8 := dr1 DJ8_newLength_cabcc_7
theorem DJ8_newLength_cabcc_9 : cJ8_newLength_cabcc.data.toList.drop 9 = TJ8_newLength_cabcc_9 := dr1 DJ8_newLength_cabcc_8
theorem DJ8_newLength_cabcc_10 : cJ8_newLength_cabcc.data.toList.drop 10 = TJ8_newLength_cabcc_10 := dr1 DJ8_newLength_cabcc_9
theorem DJ8_newLength_cabcc_13 : cJ8_newLength_cabcc.data.toList.drop 13 = TJ8_newLength_cabcc_13 := dr3 DJ8_newLength_cabcc_10
theorem DJ8_newLength_cabcc_14 : cJ8_newLength_cabcc.data.toList.drop 14 = TJ8_newLength_cabcc_14 := dr1 DJ8_newLength_cabcc_13
theorem DJ8_newLength_cabcc_16 : cJ8_newLength_cabcc.data.toList.drop 16 = TJ8_newLength_cabcc_16 := dr2 DJ8_newLength_cabcc_14
theorem DJ8_newLength_cabcc_19 : cJ8_newLength_cabcc.data.toList.drop 19 = TJ8_newLength_cabcc_19 := dr3 DJ8_newLength_cabcc_16
theorem DJ8_newLength_cabcc_20 : cJ8_newLength_cabcc.data.toList.drop 20 = TJ8_newLength_cabcc_20 := dr1 DJ8_newLength_cabcc_19
theorem DJ8_newLength_cabcc_21 : cJ8_newLength_cabcc.data.toList.drop 21 = TJ8_newLength_cabcc_21 := dr1 DJ8_newLength_cabcc_20
theorem DJ8_newLength_cabcc_22 : cJ8_newLength_cabcc.data.toList.drop 22 = TJ8_newLength_cabcc_22 := dr1 DJ8_newLength_cabcc_21
theorem DJ8_newLength_cabcc_23 : cJ8_newLength_cabcc.data.toList.drop 23 = TJ8_newLength_cabcc_23 := dr1 DJ8_newLength_cabcc_22
theorem DJ8_newLength_cabcc_26 : cJ8_newLength_cabcc.data.toList.drop 26 = TJ8_newLength_cabcc_26 := dr3 DJ8_newLength_cabcc_23
theorem dJ8_newLength_cabcc_0 : decode cJ8_newLength_cabcc 0 = .ok (.iload_n 0, 1) := do_1a DJ8_newLength_cabcc_0
theorem dJ8_newLength_cabcc_1 : decode cJ8_newLength_cabcc 1 = .ok (.iload_n 1, 1) := do_1b DJ8_newLength_cabcc_1
theorem dJ8_newLength_cabcc_2 : decode cJ8_newLength_cabcc 2 = .ok (.iload_n 2, 1) := do_1c DJ8_newLength_cabcc_2
theorem dJ8_newLength_cabcc_3 : decode cJ8_newLength_cabcc 3 = .ok (.invokestatic 194, 3) := do_b8 DJ8_newLength_cabcc_3
theorem dJ8_newLength_cabcc_6 : decode cJ8_newLength_cabcc 6 = .ok (.iadd, 1) := do_60 DJ8_newLength_cabcc_6
theorem dJ8_newLength_cabcc_7 : decode cJ8_newLength_cabcc 7 = .ok (.istore_n 3, 1) := do_3e DJ8_newLength_cabcc_7
theorem dJ8_newLength_cabcc_8 : decode cJ8_newLength_cabcc 8 = .ok (.iconst 0, 1) := do_03 DJ8_newLength_cabcc_8
theorem dJ8_newLength_cabcc_9 : decode cJ8_newLength_cabcc 9 = .ok (.iload_n 3, 1) := do_1d DJ8_newLength_cabcc_9
theorem dJ8_newLength_cabcc_10 : decode cJ8_newLength_cabcc 10 = .ok (.if_icmp .ge 11, 3) := do_a2 DJ8_newLength_cabcc_10 (by decide +kernel)
theorem dJ8_newLength_cabcc_13 : decode cJ8_newLength_cabcc 13 = .ok (.iload_n 3, 1) := do_1d DJ8_newLength_cabcc_13
theorem dJ8_newLength_cabcc_14 : decode cJ8_newLength_cabcc 14 = .ok (.ldc 200, 2) := by decide +kernel
theorem dJ8_newLength_cabcc_16 : decode cJ8_newLength_cabcc 16 = .ok (.if_icmp .gt 5, 3) := do_a3 DJ8_newLength_cabcc_16 (by decide +kernel)
theorem dJ8_newLength_cabcc_19 : decode cJ8_newLength_cabcc 19 = .ok (.iload_n 3, 1) := do_1d DJ8_newLength_cabcc_19
theorem dJ8_newLength_cabcc_20 : decode cJ8_newLength_cabcc 20 = .ok (.ireturn, 1) := do_ac DJ8_newLength_cabcc_20
theorem dJ8_newLength_cabcc_21 : decode cJ8_newLength_cabcc 21 = .ok (.iload_n 0, 1) := do_1a DJ8_newLength_cabcc_21
theorem dJ8_newLength_cabcc_22 : decode cJ8_newLength_cabcc 22 = .ok (.iload_n 1, 1) := do_1b DJ8_newLength_cabcc_22
theorem dJ8_newLength_cabcc_23 : decode cJ8_newLength_cabcc 23 = .ok (.invokestatic 201, 3) := do_b8 DJ8_newLength_cabcc_23
theorem dJ8_newLength_cabcc_26 : decode cJ8_newLength_cabcc 26 = .ok (.ireturn, 1) := do_ac DJ8_newLength_cabcc_26
def TJ8_hugeLength_7cf53_60 : List UInt8 := []
def TJ8_hugeLength_7cf53_59 : List UInt8 := 172 :: TJ8_hugeLength_7cf53_60
def TJ8_hugeLength_7cf53_58 : List UInt8 := 28 :: TJ8_hugeLength_7cf53_59
def TJ8_hugeLength_7cf53_57 : List UInt8 := 172 :: TJ8_hugeLength_7cf53_58
def TJ8_hugeLength_7cf53_55 : List UInt8 := 18 :: 200 :: TJ8_hugeLength_7cf53_57
def TJ8_hugeLength_7cf53_52 : List UInt8 := 163 :: 0 :: 6 :: TJ8_hugeLength_7cf53_55
def TJ8_hugeLength_7cf53_50 : List UInt8 := 18 :: 200 :: TJ8_hugeLength_7cf53_52
def TJ8_hugeLength_7cf53_49 : List UInt8 := 28 :: TJ8_hugeLength_7cf53_50
def TJ8_hugeLength_7cf53_48 : List UInt8 := 191 :: TJ8_hugeLength_7cf53_49
def TJ8_hugeLength_7cf53_45 : List UInt8 := 183 :: 0 :: 212 :: TJ8_hugeLength_7cf53_48
def TJ8_hugeLength_7cf53_42 : List UInt8 := 182 :: 0 :: 101 :: TJ8_hugeLength_7cf53_45
def TJ8_hugeLength_7cf53_39 : List UInt8 := 182 :: 0 :: 94 :: TJ8_hugeLength_7cf53_42
def TJ8_hugeLength_7cf53_37 : List UInt8 := 18 :: 210 :: TJ8_hugeLength_7cf53_39
def TJ8_hugeLength_7cf53_34 : List UInt8 := 182 :: 0 :: 98 :: TJ8_hugeLength_7cf53_37
def TJ8_hugeLength_7cf53_33 : List UInt8 := 27 :: TJ8_hugeLength_7cf53_34
def TJ8_hugeLength_7cf53_30 : List UInt8 := 182 :: 0 :: 94 :: TJ8_hugeLength_7cf53_33
def TJ8_hugeLength_7cf53_28 : List UInt8 := 18 :: 208 :: TJ8_hugeLength_7cf53_30
def TJ8_hugeLength_7cf53_25 : List UInt8 := 182 :: 0 :: 98 :: TJ8_hugeLength_7cf53_28
def TJ8_hugeLength_7cf53_24 : List UInt8 := 26 :: TJ8_hugeLength_7cf53_25
def TJ8_hugeLength_7cf53_21 : List UInt8 := 182 :: 0 :: 94 :: TJ8_hugeLength_7cf53_24
def TJ8_hugeLength_7cf53_19 : List UInt8 := 18 :: 206 :: TJ8_hugeLength_7cf53_21
def TJ8_hugeLength_7cf53_16 : List UInt8 := 183 :: 0 :: 91 :: TJ8_hugeLength_7cf53_19
def TJ8_hugeLength_7cf53_15 : List UInt8 := 89 :: TJ8_hugeLength_7cf53_16
def TJ8_hugeLength_7cf53_12 : List UInt8 := 187 :: 0 :: 89 :: TJ8_hugeLength_7cf53_15
def TJ8_hugeLength_7cf53_11 : List UInt8 := 89 :: TJ8_hugeLength_7cf53_12
def TJ8_hugeLength_7cf53_8 : List UInt8 := 187 :: 0 :: 204 :: TJ8_hugeLength_7cf53_11
def TJ8_hugeLength_7cf53_5 : List UInt8 := 156 :: 0 :: 44 :: TJ8_hugeLength_7cf53_8
def TJ8_hugeLength_7cf53_4 : List UInt8 := 28 :: TJ8_hugeLength_7cf53_5
def TJ8_hugeLength_7cf53_3 : List UInt8 := 61 :: TJ8_hugeLength_7cf53_4
def TJ8_hugeLength_7cf53_2 : List UInt8 := 96 :: TJ8_hugeLength_7cf53_3
def TJ8_hugeLength_7cf53_1 : List UInt8 := 27 :: TJ8_hugeLength_7cf53_2
def TJ8_hugeLength_7cf53_0 : List UInt8 := 26 :: TJ8_hugeLength_7cf53_1
theorem DJ8_hugeLength_7cf53_0 : cJ8_hugeLength_7cf53.data.toList.drop 0 = TJ8_hugeLength_7cf53_0 := by decide +kernel
theorem DJ8_hugeLength_7cf53_1 : cJ8_hugeLength_7cf53.data.toList.drop 1 = TJ8_hugeLength_7cf53_1 := dr1 DJ8_hugeLength_7cf53_0
theorem DJ8_hugeLength_7cf53_2 : cJ8_hugeLength_7cf53.data.toList.drop 2 = TJ8_hugeLength_7cf53_2 := dr1 DJ8_hugeLength_7cf53_1
theorem DJ8_hugeLength_7cf53_3 : cJ8_hugeLength_7cf53.data.toList.drop 3 = TJ8_hugeLength_7cf53_3 := dr1 DJ8_hugeLength_7cf53_2
theorem DJ8_hugeLength_7cf53_4 : cJ8_hugeLength_7cf53.data.toList.drop 4 = TJ8_hugeLength_7cf53_4 := dr1 DJ8_hugeLength_7cf53_3
theorem DJ8_hugeLength_7cf53_5 : cJ8_hugeLength_7cf53.data.toList.drop 5 = TJ8_hugeLength_7cf53_5 := dr1 DJ8_hugeLength_7cf53_4
theorem DJ8_hugeLength_7cf53_8 : cJ8_hugeLength_7cf53.data.toList.drop 8 = TJ8_hugeLength_7cf53_8 := dr3 DJ8_hugeLength_7cf53_5
theorem DJ8_hugeLength_7cf53_11 : cJ8_hugeLength_7cf53.data.toList.drop 11 = TJ8_hugeLength_7cf53_11 := dr3 DJ8_hugeLength_7cf53_8
theorem DJ8_hugeLength_7cf53_12 : cJ8_hugeLength_7cf53.data.toList.drop 12 = TJ8_hugeLength_7cf53_12 := dr1 DJ8_hugeLength_7cf53_11
theorem DJ8_hugeLength_7cf53_15 : cJ8_hugeLength_7cf53.data.toList.drop 15 = TJ8_hugeLength_7cf53_15 := dr3 DJ8_hugeLength_7cf53_12
theorem DJ8_hugeLength_7cf53_16 : cJ8_hugeLength_7cf53.data.toList.drop 16 = TJ8_hugeLength_7cf53_16 := dr1 DJ8_hugeLength_7cf53_15
theorem DJ8_hugeLength_7cf53_19 : cJ8_hugeLength_7cf53.data.toList.drop 19 = TJ8_hugeLength_7cf53_19 := dr3 DJ8_hugeLength_7cf53_16
theorem DJ8_hugeLength_7cf53_21 : cJ8_hugeLength_7cf53.data.toList.drop 21 = TJ8_hugeLength_7cf53_21 := dr2 DJ8_hugeLength_7cf53_19
theorem DJ8_hugeLength_7cf53_24 : cJ8_hugeLength_7cf53.data.toList.drop 24 = TJ8_hugeLength_7cf53_24 := dr3 DJ8_hugeLength_7cf53_21
theorem DJ8_hugeLength_7cf53_25 : cJ8_hugeLength_7cf53.data.toList.drop 25 = TJ8_hugeLength_7cf53_25 := dr1 DJ8_hugeLength_7cf53_24
theorem DJ8_hugeLength_7cf53_28 : cJ8_hugeLength_7cf53.data.toList.drop 28 = TJ8_hugeLength_7cf53_28 := dr3 DJ8_hugeLength_7cf53_25
theorem DJ8_hugeLength_7cf53_30 : cJ8_hugeLength_7cf53.data.toList.drop 30 = TJ8_hugeLength_7cf53_30 := dr2 DJ8_hugeLength_7cf53_28
theorem DJ8_hugeLength_7cf53_33 : cJ8_hugeLength_7cf53.data.toList.drop 33 = TJ8_hugeLength_7cf53_33 := dr3 DJ8_hugeLength_7cf53_30
theorem DJ8_hugeLength_7cf53_34 : cJ8_hugeLength_7cf53.data.toList.drop 34 = TJ8_hugeLength_7cf53_34 := dr1 DJ8_hugeLength_7cf53_33
theorem DJ8_hugeLength_7cf53_37 : cJ8_hugeLength_7cf53.data.toList.drop 37 = TJ8_hugeLength_7cf53_37 := dr3 DJ8_hugeLength_7cf53_34
theorem DJ8_hugeLength_7cf53_39 : cJ8_hugeLength_7cf53.data.toList.drop 39 = TJ8_hugeLength_7cf53_39 := dr2 DJ8_hugeLength_7cf53_37
theorem DJ8_hugeLength_7cf53_42 : cJ8_hugeLength_7cf53.data.toList.drop 42 = TJ8_hugeLength_7cf53_42 := dr3 DJ8_hugeLength_7cf53_39
theorem DJ8_hugeLength_7cf53_45 : cJ8_hugeLength_7cf53.data.toList.drop 45 = TJ8_hugeLength_7cf53_45 := dr3 DJ8_hugeLength_7cf53_42
theorem DJ8_hugeLength_7cf53_48 : cJ8_hugeLength_7cf53.data.toList.drop 48 = TJ8_hugeLength_7cf53_48 := dr3 DJ8_hugeLength_7cf53_45
theorem DJ8_hugeLength_7cf53_49 : cJ8_hugeLength_7cf53.data.toList.drop 49 = TJ8_hugeLength_7cf53_49 := dr1 DJ8_hugeLength_7cf53_48
theorem DJ8_hugeLength_7cf53_50 : cJ8_hugeLength_7cf53.data.toList.drop 50 = TJ8_hugeLength_7cf53_50 := dr1 DJ8_hugeLength_7cf53_49
theorem DJ8_hugeLength_7cf53_52 : cJ8_hugeLength_7cf53.data.toList.drop 52 = TJ8_hugeLength_7cf53_52 := dr2 DJ8_hugeLength_7cf53_50
theorem DJ8_hugeLength_7cf53_55 : cJ8_hugeLength_7cf53.data.toList.drop 55 = TJ8_hugeLength_7cf53_55 := dr3 DJ8_hugeLength_7cf53_52
theorem DJ8_hugeLength_7cf53_57 : cJ8_hugeLength_7cf53.data.toList.drop 57 = TJ8_hugeLength_7cf53_57 := dr2 DJ8_hugeLength_7cf53_55
theorem DJ8_hugeLength_7cf53_58 : cJ8_hugeLength_7cf53.data.toList.drop 58 = TJ8_hugeLength_7cf53_58 := dr1 DJ8_hugeLength_7cf53_57
theorem DJ8_hugeLength_7cf53_59 : cJ8_hugeLength_7cf53.data.toList.drop 59 = TJ8_hugeLength_7cf53_59 := dr1 DJ8_hugeLength_7cf53_58
theorem dJ8_hugeLength_7cf53_0 : decode cJ8_hugeLength_7cf53 0 = .ok (.iload_n 0, 1) := do_1a DJ8_hugeLength_7cf53_0
theorem dJ8_hugeLength_7cf53_1 : decode cJ8_hugeLength_7cf53 1 = .ok (.iload_n 1, 1) := do_1b DJ8_hugeLength_7cf53_1
theorem dJ8_hugeLength_7cf53_2 : decode cJ8_hugeLength_7cf53 2 = .ok (.iadd, 1) := do_60 DJ8_hugeLength_7cf53_2
theorem dJ8_hugeLength_7cf53_3 : decode cJ8_hugeLength_7cf53 3 = .ok (.istore_n 2, 1) := do_3d DJ8_hugeLength_7cf53_3
theorem dJ8_hugeLength_7cf53_4 : decode cJ8_hugeLength_7cf53 4 = .ok (.iload_n 2, 1) := do_1c DJ8_hugeLength_7cf53_4
theorem dJ8_hugeLength_7cf53_5 : decode cJ8_hugeLength_7cf53 5 = .ok (.ifCond .ge 44, 3) := do_9c DJ8_hugeLength_7cf53_5 (by decide +kernel)
theorem dJ8_hugeLength_7cf53_8 : decode cJ8_hugeLength_7cf53 8 = .ok (.new 204, 3) := do_bb DJ8_hugeLength_7cf53_8
theorem dJ8_hugeLength_7cf53_11 : decode cJ8_hugeLength_7cf53 11 = .ok (.dup, 1) := do_59 DJ8_hugeLength_7cf53_11
theorem dJ8_hugeLength_7cf53_12 : decode cJ8_hugeLength_7cf53 12 = .ok (.new 89, 3) := do_bb DJ8_hugeLength_7cf53_12
theorem dJ8_hugeLength_7cf53_15 : decode cJ8_hugeLength_7cf53 15 = .ok (.dup, 1) := do_59 DJ8_hugeLength_7cf53_15
theorem dJ8_hugeLength_7cf53_16 : decode cJ8_hugeLength_7cf53 16 = .ok (.invokespecial 91, 3) := do_b7 DJ8_hugeLength_7cf53_16
theorem dJ8_hugeLength_7cf53_19 : decode cJ8_hugeLength_7cf53 19 = .ok (.ldc 206, 2) := by decide +kernel
theorem dJ8_hugeLength_7cf53_21 : decode cJ8_hugeLength_7cf53 21 = .ok (.invokevirtual 94, 3) := do_b6 DJ8_hugeLength_7cf53_21
theorem dJ8_hugeLength_7cf53_24 : decode cJ8_hugeLength_7cf53 24 = .ok (.iload_n 0, 1) := do_1a DJ8_hugeLength_7cf53_24
theorem dJ8_hugeLength_7cf53_25 : decode cJ8_hugeLength_7cf53 25 = .ok (.invokevirtual 98, 3) := do_b6 DJ8_hugeLength_7cf53_25
theorem dJ8_hugeLength_7cf53_28 : decode cJ8_hugeLength_7cf53 28 = .ok (.ldc 208, 2) := by decide +kernel
theorem dJ8_hugeLength_7cf53_30 : decode cJ8_hugeLength_7cf53 30 = .ok (.invokevirtual 94, 3) := do_b6 DJ8_hugeLength_7cf53_30
theorem dJ8_hugeLength_7cf53_33 : decode cJ8_hugeLength_7cf53 33 = .ok (.iload_n 1, 1) := do_1b DJ8_hugeLength_7cf53_33
theorem dJ8_hugeLength_7cf53_34 : decode cJ8_hugeLength_7cf53 34 = .ok (.invokevirtual 98, 3) := do_b6 DJ8_hugeLength_7cf53_34
theorem dJ8_hugeLength_7cf53_37 : decode cJ8_hugeLength_7cf53 37 = .ok (.ldc 210, 2) := by decide +kernel
theorem dJ8_hugeLength_7cf53_39 : decode cJ8_hugeLength_7cf53 39 = .ok (.invokevirtual 94, 3) := do_b6 DJ8_hugeLength_7cf53_39
theorem dJ8_hugeLength_7cf53_42 : decode cJ8_hugeLength_7cf53 42 = .ok (.invokevirtual 101, 3) := do_b6 DJ8_hugeLength_7cf53_42
theorem dJ8_hugeLength_7cf53_45 : decode cJ8_hugeLength_7cf53 45 = .ok (.invokespecial 212, 3) := do_b7 DJ8_hugeLength_7cf53_45
theorem dJ8_hugeLength_7cf53_48 : decode cJ8_hugeLength_7cf53 48 = .ok (.athrow, 1) := do_bf DJ8_hugeLength_7cf53_48
theorem dJ8_hugeLength_7cf53_49 : decode cJ8_hugeLength_7cf53 49 = .ok (.iload_n 2, 1) := do_1c DJ8_hugeLength_7cf53_49
theorem dJ8_hugeLength_7cf53_50 : decode cJ8_hugeLength_7cf53 50 = .ok (.ldc 200, 2) := by decide +kernel
theorem dJ8_hugeLength_7cf53_52 : decode cJ8_hugeLength_7cf53 52 = .ok (.if_icmp .gt 6, 3) := do_a3 DJ8_hugeLength_7cf53_52 (by decide +kernel)
theorem dJ8_hugeLength_7cf53_55 : decode cJ8_hugeLength_7cf53 55 = .ok (.ldc 200, 2) := by decide +kernel
theorem dJ8_hugeLength_7cf53_57 : decode cJ8_hugeLength_7cf53 57 = .ok (.ireturn, 1) := do_ac DJ8_hugeLength_7cf53_57
theorem dJ8_hugeLength_7cf53_58 : decode cJ8_hugeLength_7cf53 58 = .ok (.iload_n 2, 1) := do_1c DJ8_hugeLength_7cf53_58
theorem dJ8_hugeLength_7cf53_59 : decode cJ8_hugeLength_7cf53 59 = .ok (.ireturn, 1) := do_ac DJ8_hugeLength_7cf53_59
def TJ3_checkIndex_8e157_18 : List UInt8 := []
def TJ3_checkIndex_8e157_17 : List UInt8 := 172 :: TJ3_checkIndex_8e157_18
def TJ3_checkIndex_8e157_16 : List UInt8 := 26 :: TJ3_checkIndex_8e157_17
def TJ3_checkIndex_8e157_15 : List UInt8 := 191 :: TJ3_checkIndex_8e157_16
def TJ3_checkIndex_8e157_12 : List UInt8 := 184 :: 0 :: 95 :: TJ3_checkIndex_8e157_15
def TJ3_checkIndex_8e157_11 : List UInt8 := 27 :: TJ3_checkIndex_8e157_12
def TJ3_checkIndex_8e157_10 : List UInt8 := 26 :: TJ3_checkIndex_8e157_11
def TJ3_checkIndex_8e157_9 : List UInt8 := 44 :: TJ3_checkIndex_8e157_10
def TJ3_checkIndex_8e157_6 : List UInt8 := 161 :: 0 :: 10 :: TJ3_checkIndex_8e157_9
def TJ3_checkIndex_8e157_5 : List UInt8 := 27 :: TJ3_checkIndex_8e157_6
def TJ3_checkIndex_8e157_4 : List UInt8 := 26 :: TJ3_checkIndex_8e157_5
def TJ3_checkIndex_8e157_1 : List UInt8 := 155 :: 0 :: 8 :: TJ3_checkIndex_8e157_4
def TJ3_checkIndex_8e157_0 : List UInt8 := 26 :: TJ3_checkIndex_8e157_1
theorem DJ3_checkIndex_8e157_0 : cJ3_checkIndex_8e157.data.toList.drop 0 = TJ3_checkIndex_8e157_0 := by decide +kernel
theorem DJ3_checkIndex_8e157_1 : cJ3_checkIndex_8e157.data.toList.drop 1 = TJ3_checkIndex_8e157_1 := dr1 DJ3_checkIndex_8e157_0
theorem DJ3_checkIndex_8e157_4 : cJ3_checkIndex_8e157.data.toList.drop 4 = TJ3_checkIndex_8e157_4 := dr3 DJ3_checkIndex_8e157_1
theorem DJ3_checkIndex_8e157_5 : cJ3_checkIndex_8e157.data.toList.drop 5 = TJ3_checkIndex_8e157_5 := dr1 DJ3_checkIndex_8e157_4
theorem DJ3_checkIndex_8e157_6 : cJ3_checkIndex_8e157.data.toList.drop 6 = TJ3_checkIndex_8e157_6 := dr1 DJ3_checkIndex_8e157_5
theorem DJ3_checkIndex_8e157_9 : cJ3_checkIndex_8e157.data.toList.drop 9 = TJ3_checkIndex_8e157_9 := dr3 DJ3_checkIndex_8e157_6
theorem DJ3_checkIndex_8e157_10 : cJ3_checkIndex_8e157.data.toList.drop 10 = TJ3_checkIndex_8e157_10 := dr1 DJ3_checkIndex_8e157_9
theorem DJ3_checkIndex_8e157_11 : cJ3_checkIndex_8e157.data.toList.drop 11 = TJ3_checkIndex_8e157_11 := dr1 DJ3_checkIndex_8e157_10
theorem DJ3_checkIndex_8e157_12 : cJ3_checkIndex_8e157.data.toList.drop 12 = TJ3_checkIndex_8e157_12 := dr1 DJ3_checkIndex_8e157_11
theorem DJ3_checkIndex_8e157_15 : cJ3_checkIndex_8e157.data.toList.drop 15 = TJ3_checkIndex_8e157_15 := dr3 DJ3_checkIndex_8e157_12
theorem DJ3_checkIndex_8e157_16 : cJ3_checkIndex_8e157.data.toList.drop 16 = TJ3_checkIndex_8e157_16 := dr1 DJ3_checkIndex_8e157_15
theorem DJ3_checkIndex_8e157_17 : cJ3_checkIndex_8e157.data.toList.drop 17 = TJ3_checkIndex_8e157_17 := dr1 DJ3_checkIndex_8e157_16
theorem dJ3_checkIndex_8e157_0 : decode cJ3_checkIndex_8e157 0 = .ok (.iload_n 0, 1) := do_1a DJ3_checkIndex_8e157_0
theorem dJ3_checkIndex_8e157_1 : decode cJ3_checkIndex_8e157 1 = .ok (.ifCond .lt 8, 3) := do_9b DJ3_checkIndex_8e157_1 (by decide +kernel)
theorem dJ3_checkIndex_8e157_4 : decode cJ3_checkIndex_8e157 4 = .ok (.iload_n 0, 1) := do_1a DJ3_checkIndex_8e157_4
theorem dJ3_checkIndex_8e157_5 : decode cJ3_checkIndex_8e157 5 = .ok (.iload_n 1, 1) := do_1b DJ3_checkIndex_8e157_5
theorem dJ3_checkIndex_8e157_6 : decode cJ3_checkIndex_8e157 6 = .ok (.if_icmp .lt 10, 3) := do_a1 DJ3_checkIndex_8e157_6 (by decide +kernel)
theorem dJ3_checkIndex_8e157_9 : decode cJ3_checkIndex_8e157 9 = .ok (.aload_n 2, 1) := do_2c DJ3_checkIndex_8e157_9
theorem dJ3_checkIndex_8e157_10 : decode cJ3_checkIndex_8e157 10 = .ok (.iload_n 0, 1) := do_1a DJ3_checkIndex_8e157_10
theorem dJ3_checkIndex_8e157_11 : decode cJ3_checkIndex_8e157 11 = .ok (.iload_n 1, 1) := do_1b DJ3_checkIndex_8e157_11
theorem dJ3_checkIndex_8e157_12 : decode cJ3_checkIndex_8e157 12 = .ok (.invokestatic 95, 3) := do_b8 DJ3_checkIndex_8e157_12
theorem dJ3_checkIndex_8e157_15 : decode cJ3_checkIndex_8e157 15 = .ok (.athrow, 1) := do_bf DJ3_checkIndex_8e157_15
theorem dJ3_checkIndex_8e157_16 : decode cJ3_checkIndex_8e157 16 = .ok (.iload_n 0, 1) := do_1a DJ3_checkIndex_8e157_16
theorem dJ3_checkIndex_8e157_17 : decode cJ3_checkIndex_8e157 17 = .ok (.ireturn, 1) := do_ac DJ3_checkIndex_8e157_17
def TJ3_checkFromToIndex_8c36e_24 : List UInt8 := []
def TJ3_checkFromToIndex_8c36e_23 : List UInt8 := 172 :: TJ3_checkFromToIndex_8c36e_24
def TJ3_checkFromToIndex_8c36e_22 : List UInt8 := 26 :: TJ3_checkFromToIndex_8c36e_23
def TJ3_checkFromToIndex_8c36e_21 : List UInt8 := 191 :: TJ3_checkFromToIndex_8c36e_22
def TJ3_checkFromToIndex_8c36e_18 : List UInt8 := 184 :: 0 :: 99 :: TJ3_checkFromToIndex_8c36e_21
def TJ3_checkFromToIndex_8c36e_17 : List UInt8 := 28 :: TJ3_checkFromToIndex_8c36e_18
def TJ3_checkFromToIndex_8c36e_16 : List UInt8 := 27 :: TJ3_checkFromToIndex_8c36e_17
def TJ3_checkFromToIndex_8c36e_15 : List UInt8 := 26 :: TJ3_checkFromToIndex_8c36e_16
def TJ3_checkFromToIndex_8c36e_14 : List UInt8 := 45 :: TJ3_checkFromToIndex_8c36e_15
def TJ3_checkFromToIndex_8c36e_11 : List UInt8 := 164 :: 0 :: 11 :: TJ3_checkFromToIndex_8c36e_14
def TJ3_checkFromToIndex_8c36e_10 : List UInt8 := 28 :: TJ3_checkFromToIndex_8c36e_11
def TJ3_checkFromToIndex_8c36e_9 : List UInt8 := 27 :: TJ3_checkFromToIndex_8c36e_10
def TJ3_checkFromToIndex_8c36e_6 : List UInt8 := 163 :: 0 :: 8 :: TJ3_checkFromToIndex_8c36e_9
def TJ3_checkFromToIndex_8c36e_5 : List UInt8 := 27 :: TJ3_checkFromToIndex_8c36e_6
def TJ3_checkFromToIndex_8c36e_4 : List UInt8 := 26 :: TJ3_checkFromToIndex_8c36e_5
def TJ3_checkFromToIndex_8c36e_1 : List UInt8 := 155 :: 0 :: 13 :: TJ3_checkFromToIndex_8c36e_4
def TJ3_checkFromToIndex_8c36e_0 : List UInt8 := 26 :: TJ3_checkFromToIndex_8c36e_1
theorem DJ3_checkFromToIndex_8c36e_0 : cJ3_checkFromToIndex_8c36e.data.toList.drop 0 = TJ3_checkFromToIndex_8c36e_0 := by decide +kernel
theorem DJ3_checkFromToIndex_8c36e_1 : cJ3_checkFromToIndex_8c36e.data.toList.drop 1 = TJ3_checkFromToIndex_8c36e_1 := dr1 DJ3_checkFromToIndex_8c36e_0
theorem DJ3_checkFromToIndex_8c36e_4 : cJ3_checkFromToIndex_8c36e.data.toList.drop 4 = TJ3_checkFromToIndex_8c36e_4 := dr3 DJ3_checkFromToIndex_8c36e_1
theorem DJ3_checkFromToIndex_8c36e_5 : cJ3_checkFromToIndex_8c36e.data.toList.drop 5 = TJ3_checkFromToIndex_8c36e_5 := dr1 DJ3_checkFromToIndex_8c36e_4
theorem DJ3_checkFromToIndex_8c36e_6 : cJ3_checkFromToIndex_8c36e.data.toList.drop 6 = TJ3_checkFromToIndex_8c36e_6 := dr1 DJ3_checkFromToIndex_8c36e_5
theorem DJ3_checkFromToIndex_8c36e_9 : cJ3_checkFromToIndex_8c36e.data.toList.drop 9 = TJ3_checkFromToIndex_8c36e_9 := dr3 DJ3_checkFromToIndex_8c36e_6
theorem DJ3_checkFromToIndex_8c36e_10 : cJ3_checkFromToIndex_8c36e.data.toList.drop 10 = TJ3_checkFromToIndex_8c36e_10 := dr1 DJ3_checkFromToIndex_8c36e_9
theorem DJ3_checkFromToIndex_8c36e_11 : cJ3_checkFromToIndex_8c36e.data.toList.drop 11 = TJ3_checkFromToIndex_8c36e_11 := dr1 DJ3_checkFromToIndex_8c36e_10
theorem DJ3_checkFromToIndex_8c36e_14 : cJ3_checkFromToIndex_8c36e.data.toList.drop 14 = TJ3_checkFromToIndex_8c36e_14 := dr3 DJ3_checkFromToIndex_8c36e_11
theorem DJ3_checkFromToIndex_8c36e_15 : cJ3_checkFromToIndex_8c36e.data.toList.drop 15 = TJ3_checkFromToIndex_8c36e_15 := dr1 DJ3_checkFromToIndex_8c36e_14
theorem DJ3_checkFromToIndex_8c36e_16 : cJ3_checkFromToIndex_8c36e.data.toList.drop 16 = TJ3_checkFromToIndex_8c36e_16 := dr1 DJ3_checkFromToIndex_8c36e_15
theorem DJ3_checkFromToIndex_8c36e_17 : cJ3_checkFromToIndex_8c36e.data.toList.drop 17 = TJ3_checkFromToIndex_8c36e_17 := dr1 DJ3_checkFromToIndex_8c36e_16
theorem DJ3_checkFromToIndex_8c36e_18 : cJ3_checkFromToIndex_8c36e.data.toList.drop 18 = TJ3_checkFromToIndex_8c36e_18 := dr1 DJ3_checkFromToIndex_8c36e_17
theorem DJ3_checkFromToIndex_8c36e_21 : cJ3_checkFromToIndex_8c36e.data.toList.drop 21 = TJ3_checkFromToIndex_8c36e_21 := dr3 DJ3_checkFromToIndex_8c36e_18
theorem DJ3_checkFromToIndex_8c36e_22 : cJ3_checkFromToIndex_8c36e.data.toList.drop 22 = TJ3_checkFromToIndex_8c36e_22 := dr1 DJ3_checkFromToIndex_8c36e_21
theorem DJ3_checkFromToIndex_8c36e_23 : cJ3_checkFromToIndex_8c36e.data.toList.drop 23 = TJ3_checkFromToIndex_8c36e_23 := dr1 DJ3_checkFromToIndex_8c36e_22
theorem dJ3_checkFromToIndex_8c36e_0 : decode cJ3_checkFromToIndex_8c36e 0 = .ok (.iload_n 0, 1) := do_1a DJ3_checkFromToIndex_8c36e_0
theorem dJ3_checkFromToIndex_8c36e_1 : decode cJ3_checkFromToIndex_8c36e 1 = .ok (.ifCond .lt 13, 3) := do_9b DJ3_checkFromToIndex_8c36e_1 (by decide +kernel)
theorem dJ3_checkFromToIndex_8c36e_4 : decode cJ3_checkFromToIndex_8c36e 4 = .ok (.iload_n 0, 1) := do_1a DJ3_checkFromToIndex_8c36e_4
theorem dJ3_checkFromToIndex_8c36e_5 : decode cJ3_checkFromToIndex_8c36e 5 = .ok (.iload_n 1, 1) := do_1b DJ3_checkFromToIndex_8c36e_5
theorem dJ3_checkFromToIndex_8c36e_6 : decode cJ3_checkFromToIndex_8c36e 6 = .ok (.if_icmp .gt 8, 3) := do_a3 DJ3_checkFromToIndex_8c36e_6 (by decide +kernel)
theorem dJ3_checkFromToIndex_8c36e_9 : decode cJ3_checkFromToIndex_8c36e 9 = .ok (.iload_n 1, 1) := do_1b DJ3_checkFromToIndex_8c36e_9
theorem dJ3_checkFromToIndex_8c36e_10 : decode cJ3_checkFromToIndex_8c36e 10 = .ok (.iload_n 2, 1) := do_1c DJ3_checkFromToIndex_8c36e_10
theorem dJ3_checkFromToIndex_8c36e_11 : decode cJ3_checkFromToIndex_8c36e 11 = .ok (.if_icmp .le 11, 3) := do_a4 DJ3_checkFromToIndex_8c36e_11 (by decide +kernel)
theorem dJ3_checkFromToIndex_8c36e_14 : decode cJ3_checkFromToIndex_8c36e 14 = .ok (.aload_n 3, 1) := do_2d DJ3_checkFromToIndex_8c36e_14
theorem dJ3_checkFromToIndex_8c36e_15 : decode cJ3_checkFromToIndex_8c36e 15 = .ok (.iload_n 0, 1) := do_1a DJ3_checkFromToIndex_8c36e_15
theorem dJ3_checkFromToIndex_8c36e_16 : decode cJ3_checkFromToIndex_8c36e 16 = .ok (.iload_n 1, 1) := do_1b DJ3_checkFromToIndex_8c36e_16
theorem dJ3_checkFromToIndex_8c36e_17 : decode cJ3_checkFromToIndex_8c36e 17 = .ok (.iload_n 2, 1) := do_1c DJ3_checkFromToIndex_8c36e_17
theorem dJ3_checkFromToIndex_8c36e_18 : decode cJ3_checkFromToIndex_8c36e 18 = .ok (.invokestatic 99, 3) := do_b8 DJ3_checkFromToIndex_8c36e_18
theorem dJ3_checkFromToIndex_8c36e_21 : decode cJ3_checkFromToIndex_8c36e 21 = .ok (.athrow, 1) := do_bf DJ3_checkFromToIndex_8c36e_21
theorem dJ3_checkFromToIndex_8c36e_22 : decode cJ3_checkFromToIndex_8c36e 22 = .ok (.iload_n 0, 1) := do_1a DJ3_checkFromToIndex_8c36e_22
theorem dJ3_checkFromToIndex_8c36e_23 : decode cJ3_checkFromToIndex_8c36e 23 = .ok (.ireturn, 1) := do_ac DJ3_checkFromToIndex_8c36e_23
def TJ3_checkFromIndexSize_8c36e_25 : List UInt8 := []
def TJ3_checkFromIndexSize_8c36e_24 : List UInt8 := 172 :: TJ3_checkFromIndexSize_8c36e_25
def TJ3_checkFromIndexSize_8c36e_23 : List UInt8 := 26 :: TJ3_checkFromIndexSize_8c36e_24
def TJ3_checkFromIndexSize_8c36e_22 : List UInt8 := 191 :: TJ3_checkFromIndexSize_8c36e_23
def TJ3_checkFromIndexSize_8c36e_19 : List UInt8 := 184 :: 0 :: 103 :: TJ3_checkFromIndexSize_8c36e_22
def TJ3_checkFromIndexSize_8c36e_18 : List UInt8 := 28 :: TJ3_checkFromIndexSize_8c36e_19
def TJ3_checkFromIndexSize_8c36e_17 : List UInt8 := 27 :: TJ3_checkFromIndexSize_8c36e_18
def TJ3_checkFromIndexSize_8c36e_16 : List UInt8 := 26 :: TJ3_checkFromIndexSize_8c36e_17
def TJ3_checkFromIndexSize_8c36e_15 : List UInt8 := 45 :: TJ3_checkFromIndexSize_8c36e_16
def TJ3_checkFromIndexSize_8c36e_12 : List UInt8 := 164 :: 0 :: 11 :: TJ3_checkFromIndexSize_8c36e_15
def TJ3_checkFromIndexSize_8c36e_11 : List UInt8 := 100 :: TJ3_checkFromIndexSize_8c36e_12
def TJ3_checkFromIndexSize_8c36e_10 : List UInt8 := 26 :: TJ3_checkFromIndexSize_8c36e_11
def TJ3_checkFromIndexSize_8c36e_9 : List UInt8 := 28 :: TJ3_checkFromIndexSize_8c36e_10
def TJ3_checkFromIndexSize_8c36e_8 : List UInt8 := 27 :: TJ3_checkFromIndexSize_8c36e_9
def TJ3_checkFromIndexSize_8c36e_5 : List UInt8 := 155 :: 0 :: 10 :: TJ3_checkFromIndexSize_8c36e_8
def TJ3_checkFromIndexSize_8c36e_4 : List UInt8 := 128 :: TJ3_checkFromIndexSize_8c36e_5
def TJ3_checkFromIndexSize_8c36e_3 : List UInt8 := 27 :: TJ3_checkFromIndexSize_8c36e_4
def TJ3_checkFromIndexSize_8c36e_2 : List UInt8 := 128 :: TJ3_checkFromIndexSize_8c36e_3
def TJ3_checkFromIndexSize_8c36e_1 : List UInt8 := 26 :: TJ3_checkFromIndexSize_8c36e_2
def TJ3_checkFromIndexSize_8c36e_0 : List UInt8 := 28 :: TJ3_checkFromIndexSize_8c36e_1
theorem DJ3_checkFromIndexSize_8c36e_0 : cJ3_checkFromIndexSize_8c36e.data.toList.drop 0 = TJ3_checkFromIndexSize_8c36e_0 := by decide +kernel
theorem DJ3_checkFromIndexSize_8c36e_1 : cJ3_checkFromIndexSize_8c36e.data.toList.drop 1 = TJ3_checkFromIndexSize_8c36e_1 := dr1 DJ3_checkFromIndexSize_8c36e_0
theorem DJ3_checkFromIndexSize_8c36e_2 : cJ3_checkFromIndexSize_8c36e.data.toList.drop 2 = TJ3_checkFromIndexSize_8c36e_2 := dr1 DJ3_checkFromIndexSize_8c36e_1
theorem DJ3_checkFromIndexSize_8c36e_3 : cJ3_checkFromIndexSize_8c36e.data.toList.drop 3 = TJ3_checkFromIndexSize_8c36e_3 := dr1 DJ3_checkFromIndexSize_8c36e_2
theorem DJ3_checkFromIndexSize_8c36e_4 : cJ3_checkFromIndexSize_8c36e.data.toList.drop 4 = TJ3_checkFromIndexSize_8c36e_4 := dr1 DJ3_checkFromIndexSize_8c36e_3
theorem DJ3_checkFromIndexSize_8c36e_5 : cJ3_checkFromIndexSize_8c36e.data.toList.drop 5 = TJ3_checkFromIndexSize_8c36e_5 := dr1 DJ3_checkFromIndexSize_8c36e_4
theorem DJ3_checkFromIndexSize_8c36e_8 : cJ3_checkFromIndexSize_8c36e.data.toList.drop 8 = TJ3_checkFromIndexSize_8c36e_8 := dr3 DJ3_checkFromIndexSize_8c36e_5
theorem DJ3_checkFromIndexSize_8c36e_9 : cJ3_checkFromIndexSize_8c36e.data.toList.drop 9 = TJ3_checkFromIndexSize_8c36e_9 := dr1 DJ3_checkFromIndexSize_8c36e_8
theorem DJ3_checkFromIndexSize_8c36e_10 : cJ3_checkFromIndexSize_8c36e.data.toList.drop 10 = TJ3_checkFromIndexSize_8c36e_10 := dr1 DJ3_checkFromIndexSize_8c36e_9
theorem DJ3_checkFromIndexSize_8c36e_11 : cJ3_checkFromIndexSize_8c36e.data.toList.drop 11 = TJ3_checkFromIndexSize_8c36e_11 := dr1 DJ3_checkFromIndexSize_8c36e_10
theorem DJ3_checkFromIndexSize_8c36e_12 : cJ3_checkFromIndexSize_8c36e.data.toList.drop 12 = TJ3_checkFromIndexSize_8c36e_12 := dr1 DJ3_checkFromIndexSize_8c36e_11
theorem DJ3_checkFromIndexSize_8c36e_15 : cJ3_checkFromIndexSize_8c36e.data.toList.drop 15 = TJ3_checkFromIndexSize_8c36e_15 := dr3 DJ3_checkFromIndexSize_8c36e_12
theorem DJ3_checkFromIndexSize_8c36e_16 : cJ3_checkFromIndexSize_8c36e.data.toList.drop 16 = TJ3_checkFromIndexSize_8c36e_16 := dr1 DJ3_checkFromIndexSize_8c36e_15
theorem DJ3_checkFromIndexSize_8c36e_17 : cJ3_checkFromIndexSize_8c36e.data.toList.drop 17 = TJ3_checkFromIndexSize_8c36e_17 := dr1 DJ3_checkFromIndexSize_8c36e_16
theorem DJ3_checkFromIndexSize_8c36e_18 : cJ3_checkFromIndexSize_8c36e.data.toList.drop 18 = TJ3_checkFromIndexSize_8c36e_18 := dr1 DJ3_checkFromIndexSize_8c36e_17
theorem DJ3_checkFromIndexSize_8c36e_19 : cJ3_checkFromIndexSize_8c36e.data.toList.drop 19 = TJ3_checkFromIndexSize_8c36e_19 := dr1 DJ3_checkFromIndexSize_8c36e_18
theorem DJ3_checkFromIndexSize_8c36e_22 : cJ3_checkFromIndexSize_8c36e.data.toList.drop 22 = TJ3_checkFromIndexSize_8c36e_22 := dr3 DJ3_checkFromIndexSize_8c36e_19
theorem DJ3_checkFromIndexSize_8c36e_23 : cJ3_checkFromIndexSize_8c36e.data.toList.drop 23 = TJ3_checkFromIndexSize_8c36e_23 := dr1 DJ3_checkFromIndexSize_8c36e_22
theorem DJ3_checkFromIndexSize_8c36e_24 : cJ3_checkFromIndexSize_8c36e.data.toList.drop 24 = TJ3_checkFromIndexSize_8c36e_24 := dr1 DJ3_checkFromIndexSize_8c36e_23
theorem dJ3_checkFromIndexSize_8c36e_0 : decode cJ3_checkFromIndexSize_8c36e 0 = .ok (.iload_n 2, 1) := do_1c DJ3_checkFromIndexSize_8c36e_0
theorem dJ3_checkFromIndexSize_8c36e_1 : decode cJ3_checkFromIndexSize_8c36e 1 = .ok (.iload_n 0, 1) := do_1a DJ3_checkFromIndexSize_8c36e_1
theorem dJ3_checkFromIndexSize_8c36e_2 : decode cJ3_checkFromIndexSize_8c36e 2 = .ok (.ior, 1) := do_80 DJ3_checkFromIndexSize_8c36e_2
theorem dJ3_checkFromIndexSize_8c36e_3 : decode cJ3_checkFromIndexSize_8c36e 3 = .ok (.iload_n 1, 1) := do_1b DJ3_checkFromIndexSize_8c36e_3
theorem dJ3_checkFromIndexSize_8c36e_4 : decode cJ3_checkFromIndexSize_8c36e 4 = .ok (.ior, 1) := do_80 DJ3_checkFromIndexSize_8c36e_4
theorem dJ3_checkFromIndexSize_8c36e_5 : decode cJ3_checkFromIndexSize_8c36e 5 = .ok (.ifCond .lt 10, 3) := do_9b DJ3_checkFromIndexSize_8c36e_5 (by decide +kernel)
theorem dJ3_checkFromIndexSize_8c36e_8 : decode cJ3_checkFromIndexSize_8c36e 8 = .ok (.iload_n 1, 1) := do_1b DJ3_checkFromIndexSize_8c36e_8
theorem dJ3_checkFromIndexSize_8c36e_9 : decode cJ3_checkFromIndexSize_8c36e 9 = .ok (.iload_n 2, 1) := do_1c DJ3_checkFromIndexSize_8c36e_9
theorem dJ3_checkFromIndexSize_8c36e_10 : decode cJ3_checkFromIndexSize_8c36e 10 = .ok (.iload_n 0, 1) := do_1a DJ3_checkFromIndexSize_8c36e_10
theorem dJ3_checkFromIndexSize_8c36e_11 : decode cJ3_checkFromIndexSize_8c36e 11 = .ok (.isub, 1) := do_64 DJ3_checkFromIndexSize_8c36e_11
theorem dJ3_checkFromIndexSize_8c36e_12 : decode cJ3_checkFromIndexSize_8c36e 12 = .ok (.if_icmp .le 11, 3) := do_a4 DJ3_checkFromIndexSize_8c36e_12 (by decide +kernel)
theorem dJ3_checkFromIndexSize_8c36e_15 : decode cJ3_checkFromIndexSize_8c36e 15 = .ok (.aload_n 3, 1) := do_2d DJ3_checkFromIndexSize_8c36e_15
theorem dJ3_checkFromIndexSize_8c36e_16 : decode cJ3_checkFromIndexSize_8c36e 16 = .ok (.iload_n 0, 1) := do_1a DJ3_checkFromIndexSize_8c36e_16
theorem dJ3_checkFromIndexSize_8c36e_17 : decode cJ3_checkFromIndexSize_8c36e 17 = .ok (.iload_n 1, 1) := do_1b DJ3_checkFromIndexSize_8c36e_17
theorem dJ3_checkFromIndexSize_8c36e_18 : decode cJ3_checkFromIndexSize_8c36e 18 = .ok (.iload_n 2, 1) := do_1c DJ3_checkFromIndexSize_8c36e_18
theorem dJ3_checkFromIndexSize_8c36e_19 : decode cJ3_checkFromIndexSize_8c36e 19 = .ok (.invokestatic 103, 3) := do_b8 DJ3_checkFromIndexSize_8c36e_19
theorem dJ3_checkFromIndexSize_8c36e_22 : decode cJ3_checkFromIndexSize_8c36e 22 = .ok (.athrow, 1) := do_bf DJ3_checkFromIndexSize_8c36e_22
theorem dJ3_checkFromIndexSize_8c36e_23 : decode cJ3_checkFromIndexSize_8c36e 23 = .ok (.iload_n 0, 1) := do_1a DJ3_checkFromIndexSize_8c36e_23
theorem dJ3_checkFromIndexSize_8c36e_24 : decode cJ3_checkFromIndexSize_8c36e 24 = .ok (.ireturn, 1) := do_ac DJ3_checkFromIndexSize_8c36e_24
