def TL_open_24 : List UInt8 := []
def TL_open_23 : List UInt8 := 172 :: TL_open_24
def TL_open_22 : List UInt8 := 3 :: TL_open_23
def TL_open_21 : List UInt8 := 172 :: TL_open_22
def TL_open_20 : List UInt8 := 5 :: TL_open_21
def TL_open_18 : List UInt8 := 58 :: 4 :: TL_open_20
def TL_open_17 : List UInt8 := 172 :: TL_open_18
def TL_open_16 : List UInt8 := 4 :: TL_open_17
def TL_open_14 : List UInt8 := 58 :: 4 :: TL_open_16
def TL_open_11 : List UInt8 := 167 :: 0 :: 11 :: TL_open_14
def TL_open_8 : List UInt8 := 181 :: 0 :: 13 :: TL_open_11
def TL_open_7 : List UInt8 := 133 :: TL_open_8
def TL_open_4 : List UInt8 := 182 :: 0 :: 7 :: TL_open_7
def TL_open_3 : List UInt8 := 28 :: TL_open_4
def TL_open_2 : List UInt8 := 27 :: TL_open_3
def TL_open_1 : List UInt8 := 42 :: TL_open_2
def TL_open_0 : List UInt8 := 45 :: TL_open_1
theorem DL_open_0 : cL_open.data.toList.drop 0 = TL_open_0 := by decide +kernel
theorem DL_open_1 : cL_open.data.toList.drop 1 = TL_open_1 := dr1 DL_open_0
theorem DL_open_2 : cL_open.data.toList.drop 2 = TL_open_2 := dr1 DL_open_1
theorem DL_open_3 : cL_open.data.toList.drop 3 = TL_open_3 := dr1 DL_open_2
theorem DL_open_4 : cL_open.data.toList.drop 4 = TL_open_4 := dr1 DL_open_3
theorem DL_open_7 : cL_open.data.toList.drop 7 = TL_open_7 := dr3 DL_open_4
theorem DL_open_8 : cL_open.data.toList.drop 8 = TL_open_8 := dr1 DL_open_7
theorem DL_open_11 : cL_open.data.toList.drop 11 = TL_open_11 := dr3 DL_open_8
theorem DL_open_14 : cL_open.data.toList.drop 14 = TL_open_14 := dr3 DL_open_11
theorem DL_open_16 : cL_open.data.toList.drop 16 = TL_open_16 := dr2 DL_open_14
theorem DL_open_17 : cL_open.data.toList.drop 17 = TL_open_17 := dr1 DL_open_16
theorem DL_open_18 : cL_open.data.toList.drop 18 = TL_open_18 := dr1 DL_open_17
theorem DL_open_20 : cL_open.data.toList.drop 20 = TL_open_20 := dr2 DL_open_18
theorem DL_open_21 : cL_open.data.toList.drop 21 = TL_open_21 := dr1 DL_open_20
theorem DL_open_22 : cL_open.data.toList.drop 22 = TL_open_22 := dr1 DL_open_21
theorem DL_open_23 : cL_open.data.toList.drop 23 = TL_open_23 := dr1 DL_open_22
theorem dL_open_0 : decode cL_open 0 = .ok (.aload_n 3, 1) := do_2d DL_open_0
theorem dL_open_1 : decode cL_open 1 = .ok (.aload_n 0, 1) := do_2a DL_open_1
theorem dL_open_2 : decode cL_open 2 = .ok (.iload_n 1, 1) := do_1b DL_open_2
theorem dL_open_3 : decode cL_open 3 = .ok (.iload_n 2, 1) := do_1c DL_open_3
theorem dL_open_4 : decode cL_open 4 = .ok (.invokevirtual 7, 3) := do_b6 DL_open_4
theorem dL_open_7 : decode cL_open 7 = .ok (.i2l, 1) := do_85 DL_open_7
theorem dL_open_8 : decode cL_open 8 = .ok (.putfield 13, 3) := do_b5 DL_open_8
theorem dL_open_11 : decode cL_open 11 = .ok (.goto 11, 3) := do_a7 DL_open_11 (by decide +kernel)
theorem dL_open_14 : decode cL_open 14 = .ok (.astore 4, 2) := do_3a DL_open_14
theorem dL_open_16 : decode cL_open 16 = .ok (.iconst 1, 1) := do_04 DL_open_16
theorem dL_open_17 : decode cL_open 17 = .ok (.ireturn, 1) := do_ac DL_open_17
theorem dL_open_18 : decode cL_open 18 = .ok (.astore 4, 2) := do_3a DL_open_18
theorem dL_open_20 : decode cL_open 20 = .ok (.iconst 2, 1) := do_05 DL_open_20
theorem dL_open_21 : decode cL_open 21 = .ok (.ireturn, 1) := do_ac DL_open_21
theorem dL_open_22 : decode cL_open 22 = .ok (.iconst 0, 1) := do_03 DL_open_22
theorem dL_open_23 : decode cL_open 23 = .ok (.ireturn, 1) := do_ac DL_open_23
def TL_forth_24 : List UInt8 := []
def TL_forth_23 : List UInt8 := 172 :: TL_forth_24
def TL_forth_22 : List UInt8 := 3 :: TL_forth_23
def TL_forth_21 : List UInt8 := 172 :: TL_forth_22
def TL_forth_20 : List UInt8 := 5 :: TL_forth_21
def TL_forth_18 : List UInt8 := 58 :: 4 :: TL_forth_20
def TL_forth_17 : List UInt8 := 172 :: TL_forth_18
def TL_forth_16 : List UInt8 := 4 :: TL_forth_17
def TL_forth_14 : List UInt8 := 58 :: 4 :: TL_forth_16
def TL_forth_11 : List UInt8 := 167 :: 0 :: 11 :: TL_forth_14
def TL_forth_8 : List UInt8 := 181 :: 0 :: 13 :: TL_forth_11
def TL_forth_7 : List UInt8 := 133 :: TL_forth_8
def TL_forth_4 : List UInt8 := 182 :: 0 :: 23 :: TL_forth_7
def TL_forth_3 : List UInt8 := 28 :: TL_forth_4
def TL_forth_2 : List UInt8 := 27 :: TL_forth_3
def TL_forth_1 : List UInt8 := 42 :: TL_forth_2
def TL_forth_0 : List UInt8 := 45 :: TL_forth_1
theorem DL_forth_0 : cL_forth.data.toList.drop 0 = TL_forth_0 := by decide +kernel
theorem DL_forth_1 : cL_forth.data.toList.drop 1 = TL_forth_1 := dr1 DL_forth_0
theorem DL_forth_2 : cL_forth.data.toList.drop 2 = TL_forth_2 := dr1 DL_forth_1
theorem DL_forth_3 : cL_forth.data.toList.drop 3 = TL_forth_3 := dr1 DL_forth_2
theorem DL_forth_4 : cL_forth.data.toList.drop 4 = TL_forth_4 := dr1 DL_forth_3
theorem DL_forth_7 : cL_forth.data.toList.drop 7 = TL_forth_7 := dr3 DL_forth_4
theorem DL_forth_8 : cL_forth.data.toList.drop 8 = TL_forth_8 := dr1 DL_forth_7
theorem DL_forth_11 : cL_forth.data.toList.drop 11 = TL_forth_11 := dr3 DL_forth_8
theorem DL_forth_14 : cL_forth.data.toList.drop 14 = TL_forth_14 := dr3 DL_forth_11
theorem DL_forth_16 : cL_forth.data.toList.drop 16 = TL_forth_16 := dr2 DL_forth_14
theorem DL_forth_17 : cL_forth.data.toList.drop 17 = TL_forth_17 := dr1 DL_forth_16
theorem DL_forth_18 : cL_forth.data.toList.drop 18 = TL_forth_18 := dr1 DL_forth_17
theorem DL_forth_20 : cL_forth.data.toList.drop 20 = TL_forth_20 := dr2 DL_forth_18
theorem DL_forth_21 : cL_forth.data.toList.drop 21 = TL_forth_21 := dr1 DL_forth_20
theorem DL_forth_22 : cL_forth.data.toList.drop 22 = TL_forth_22 := dr1 DL_forth_21
theorem DL_forth_23 : cL_forth.data.toList.drop 23 = TL_forth_23 := dr1 DL_forth_22
theorem dL_forth_0 : decode cL_forth 0 = .ok (.aload_n 3, 1) := do_2d DL_forth_0
theorem dL_forth_1 : decode cL_forth 1 = .ok (.aload_n 0, 1) := do_2a DL_forth_1
theorem dL_forth_2 : decode cL_forth 2 = .ok (.iload_n 1, 1) := do_1b DL_forth_2
theorem dL_forth_3 : decode cL_forth 3 = .ok (.iload_n 2, 1) := do_1c DL_forth_3
theorem dL_forth_4 : decode cL_forth 4 = .ok (.invokevirtual 23, 3) := do_b6 DL_forth_4
theorem dL_forth_7 : decode cL_forth 7 = .ok (.i2l, 1) := do_85 DL_forth_7
theorem dL_forth_8 : decode cL_forth 8 = .ok (.putfield 13, 3) := do_b5 DL_forth_8
theorem dL_forth_11 : decode cL_forth 11 = .ok (.goto 11, 3) := do_a7 DL_forth_11 (by decide +kernel)
theorem dL_forth_14 : decode cL_forth 14 = .ok (.astore 4, 2) := do_3a DL_forth_14
theorem dL_forth_16 : decode cL_forth 16 = .ok (.iconst 1, 1) := do_04 DL_forth_16
theorem dL_forth_17 : decode cL_forth 17 = .ok (.ireturn, 1) := do_ac DL_forth_17
theorem dL_forth_18 : decode cL_forth 18 = .ok (.astore 4, 2) := do_3a DL_forth_18
theorem dL_forth_20 : decode cL_forth 20 = .ok (.iconst 2, 1) := do_05 DL_forth_20
theorem dL_forth_21 : decode cL_forth 21 = .ok (.ireturn, 1) := do_ac DL_forth_21
theorem dL_forth_22 : decode cL_forth 22 = .ok (.iconst 0, 1) := do_03 DL_forth_22
theorem dL_forth_23 : decode cL_forth 23 = .ok (.ireturn, 1) := do_ac DL_forth_23
def TL_back_18 : List UInt8 := []
def TL_back_17 : List UInt8 := 172 :: TL_back_18
def TL_back_16 : List UInt8 := 3 :: TL_back_17
def TL_back_15 : List UInt8 := 172 :: TL_back_16
def TL_back_14 : List UInt8 := 4 :: TL_back_15
def TL_back_13 : List UInt8 := 78 :: TL_back_14
def TL_back_10 : List UInt8 := 167 :: 0 :: 6 :: TL_back_13
def TL_back_7 : List UInt8 := 181 :: 0 :: 13 :: TL_back_10
def TL_back_6 : List UInt8 := 133 :: TL_back_7
def TL_back_3 : List UInt8 := 182 :: 0 :: 26 :: TL_back_6
def TL_back_2 : List UInt8 := 27 :: TL_back_3
def TL_back_1 : List UInt8 := 42 :: TL_back_2
def TL_back_0 : List UInt8 := 44 :: TL_back_1
theorem DL_back_0 : cL_back.data.toList.drop 0 = TL_back_0 := by decide +kernel
theorem DL_back_1 : cL_back.data.toList.drop 1 = TL_back_1 := dr1 DL_back_0
theorem DL_back_2 : cL_back.data.toList.drop 2 = TL_back_2 := dr1 DL_back_1
theorem DL_back_3 : cL_back.data.toList.drop 3 = TL_back_3 := dr1 DL_back_2
theorem DL_back_6 : cL_back.data.toList.drop 6 = TL_back_6 := dr3 DL_back_3
theorem DL_back_7 : cL_back.data.toList.drop 7 = TL_back_7 := dr1 DL_back_6
theorem DL_back_10 : cL_back.data.toList.drop 10 = TL_back_10 := dr3 DL_back_7
theorem DL_back_13 : cL_back.data.toList.drop 13 = TL_back_13 := dr3 DL_back_10
theorem DL_back_14 : cL_back.data.toList.drop 14 = TL_back_14 := dr1 DL_back_13
theorem DL_back_15 : cL_back.data.toList.drop 15 = TL_back_15 := dr1 DL_back_14
theorem DL_back_16 : cL_back.data.toList.drop 16 = TL_back_16 := dr1 DL_back_15
theorem DL_back_17 : cL_back.data.toList.drop 17 = TL_back_17 := dr1 DL_back_16
theorem dL_back_0 : decode cL_back 0 = .ok (.aload_n 2, 1) := do_2c DL_back_0
theorem dL_back_1 : decode cL_back 1 = .ok (.aload_n 0, 1) := do_2a DL_back_1
theorem dL_back_2 : decode cL_back 2 = .ok (.iload_n 1, 1) := do_1b DL_back_2
theorem dL_back_3 : decode cL_back 3 = .ok (.invokevirtual 26, 3) := do_b6 DL_back_3
theorem dL_back_6 : decode cL_back 6 = .ok (.i2l, 1) := do_85 DL_back_6
theorem dL_back_7 : decode cL_back 7 = .ok (.putfield 13, 3) := do_b5 DL_back_7
theorem dL_back_10 : decode cL_back 10 = .ok (.goto 6, 3) := do_a7 DL_back_10 (by decide +kernel)
theorem dL_back_13 : decode cL_back 13 = .ok (.astore_n 3, 1) := do_4e DL_back_13
theorem dL_back_14 : decode cL_back 14 = .ok (.iconst 1, 1) := do_04 DL_back_14
theorem dL_back_15 : decode cL_back 15 = .ok (.ireturn, 1) := do_ac DL_back_15
theorem dL_back_16 : decode cL_back 16 = .ok (.iconst 0, 1) := do_03 DL_back_16
theorem dL_back_17 : decode cL_back 17 = .ok (.ireturn, 1) := do_ac DL_back_17
def TL_walkCopy_20 : List UInt8 := []
def TL_walkCopy_19 : List UInt8 := 172 :: TL_walkCopy_20
def TL_walkCopy_18 : List UInt8 := 3 :: TL_walkCopy_19
def TL_walkCopy_17 : List UInt8 := 172 :: TL_walkCopy_18
def TL_walkCopy_16 : List UInt8 := 4 :: TL_walkCopy_17
def TL_walkCopy_14 : List UInt8 := 58 :: 4 :: TL_walkCopy_16
def TL_walkCopy_11 : List UInt8 := 167 :: 0 :: 7 :: TL_walkCopy_14
def TL_walkCopy_8 : List UInt8 := 181 :: 0 :: 13 :: TL_walkCopy_11
def TL_walkCopy_7 : List UInt8 := 133 :: TL_walkCopy_8
def TL_walkCopy_4 : List UInt8 := 182 :: 0 :: 30 :: TL_walkCopy_7
def TL_walkCopy_3 : List UInt8 := 28 :: TL_walkCopy_4
def TL_walkCopy_2 : List UInt8 := 27 :: TL_walkCopy_3
def TL_walkCopy_1 : List UInt8 := 42 :: TL_walkCopy_2
def TL_walkCopy_0 : List UInt8 := 45 :: TL_walkCopy_1
theorem DL_walkCopy_0 : cL_walkCopy.data.toList.drop 0 = TL_walkCopy_0 := by decide +kernel
theorem DL_walkCopy_1 : cL_walkCopy.data.toList.drop 1 = TL_walkCopy_1 := dr1 DL_walkCopy_0
theorem DL_walkCopy_2 : cL_walkCopy.data.toList.drop 2 = TL_walkCopy_2 := dr1 DL_walkCopy_1
theorem DL_walkCopy_3 : cL_walkCopy.data.toList.drop 3 = TL_walkCopy_3 := dr1 DL_walkCopy_2
theorem DL_walkCopy_4 : cL_walkCopy.data.toList.drop 4 = TL_walkCopy_4 := dr1 DL_walkCopy_3
theorem DL_walkCopy_7 : cL_walkCopy.data.toList.drop 7 = TL_walkCopy_7 := dr3 DL_walkCopy_4
theorem DL_walkCopy_8 : cL_walkCopy.data.toList.drop 8 = TL_walkCopy_8 := dr1 DL_walkCopy_7
theorem DL_walkCopy_11 : cL_walkCopy.data.toList.drop 11 = TL_walkCopy_11 := dr3 DL_walkCopy_8
theorem DL_walkCopy_14 : cL_walkCopy.data.toList.drop 14 = TL_walkCopy_14 := dr3 DL_walkCopy_11
theorem DL_walkCopy_16 : cL_walkCopy.data.toList.drop 16 = TL_walkCopy_16 := dr2 DL_walkCopy_14
theorem DL_walkCopy_17 : cL_walkCopy.data.toList.drop 17 = TL_walkCopy_17 := dr1 DL_walkCopy_16
theorem DL_walkCopy_18 : cL_walkCopy.data.toList.drop 18 = TL_walkCopy_18 := dr1 DL_walkCopy_17
theorem DL_walkCopy_19 : cL_walkCopy.data.toList.drop 19 = TL_walkCopy_19 := dr1 DL_walkCopy_18
theorem dL_walkCopy_0 : decode cL_walkCopy 0 = .ok (.aload_n 3, 1) := do_2d DL_walkCopy_0
theorem dL_walkCopy_1 : decode cL_walkCopy 1 = .ok (.aload_n 0, 1) := do_2a DL_walkCopy_1
theorem dL_walkCopy_2 : decode cL_walkCopy 2 = .ok (.iload_n 1, 1) := do_1b DL_walkCopy_2
theorem dL_walkCopy_3 : decode cL_walkCopy 3 = .ok (.iload_n 2, 1) := do_1c DL_walkCopy_3
theorem dL_walkCopy_4 : decode cL_walkCopy 4 = .ok (.invokevirtual 30, 3) := do_b6 DL_walkCopy_4
theorem dL_walkCopy_7 : decode cL_walkCopy 7 = .ok (.i2l, 1) := do_85 DL_walkCopy_7
theorem dL_walkCopy_8 : decode cL_walkCopy 8 = .ok (.putfield 13, 3) := do_b5 DL_walkCopy_8
theorem dL_walkCopy_11 : decode cL_walkCopy 11 = .ok (.goto 7, 3) := do_a7 DL_walkCopy_11 (by decide +kernel)
theorem dL_walkCopy_14 : decode cL_walkCopy 14 = .ok (.astore 4, 2) := do_3a DL_walkCopy_14
theorem dL_walkCopy_16 : decode cL_walkCopy 16 = .ok (.iconst 1, 1) := do_04 DL_walkCopy_16
theorem dL_walkCopy_17 : decode cL_walkCopy 17 = .ok (.ireturn, 1) := do_ac DL_walkCopy_17
theorem dL_walkCopy_18 : decode cL_walkCopy 18 = .ok (.iconst 0, 1) := do_03 DL_walkCopy_18
theorem dL_walkCopy_19 : decode cL_walkCopy 19 = .ok (.ireturn, 1) := do_ac DL_walkCopy_19
def TL_part_24 : List UInt8 := []
def TL_part_23 : List UInt8 := 172 :: TL_part_24
def TL_part_22 : List UInt8 := 3 :: TL_part_23
def TL_part_21 : List UInt8 := 172 :: TL_part_22
def TL_part_20 : List UInt8 := 5 :: TL_part_21
def TL_part_18 : List UInt8 := 58 :: 4 :: TL_part_20
def TL_part_17 : List UInt8 := 172 :: TL_part_18
def TL_part_16 : List UInt8 := 4 :: TL_part_17
def TL_part_14 : List UInt8 := 58 :: 4 :: TL_part_16
def TL_part_11 : List UInt8 := 167 :: 0 :: 11 :: TL_part_14
def TL_part_8 : List UInt8 := 181 :: 0 :: 13 :: TL_part_11
def TL_part_7 : List UInt8 := 133 :: TL_part_8
def TL_part_4 : List UInt8 := 182 :: 0 :: 33 :: TL_part_7
def TL_part_3 : List UInt8 := 28 :: TL_part_4
def TL_part_2 : List UInt8 := 27 :: TL_part_3
def TL_part_1 : List UInt8 := 42 :: TL_part_2
def TL_part_0 : List UInt8 := 45 :: TL_part_1
theorem DL_part_0 : cL_part.data.toList.drop 0 = TL_part_0 := by decide +kernel
theorem DL_part_1 : cL_part.data.toList.drop 1 = TL_part_1 := dr1 DL_part_0
theorem DL_part_2 : cL_part.data.toList.drop 2 = TL_part_2 := dr1 DL_part_1
theorem DL_part_3 : cL_part.data.toList.drop 3 = TL_part_3 := dr1 DL_part_2
theorem DL_part_4 : cL_part.data.toList.drop 4 = TL_part_4 := dr1 DL_part_3
theorem DL_part_7 : cL_part.data.toList.drop 7 = TL_part_7 := dr3 DL_part_4
theorem DL_part_8 : cL_part.data.toList.drop 8 = TL_part_8 := dr1 DL_part_7
theorem DL_part_11 : cL_part.data.toList.drop 11 = TL_part_11 := dr3 DL_part_8
theorem DL_part_14 : cL_part.data.toList.drop 14 = TL_part_14 := dr3 DL_part_11
theorem DL_part_16 : cL_part.data.toList.drop 16 = TL_part_16 := dr2 DL_part_14
theorem DL_part_17 : cL_part.data.toList.drop 17 = TL_part_17 := dr1 DL_part_16
theorem DL_part_18 : cL_part.data.toList.drop 18 = TL_part_18 := dr1 DL_part_17
theorem DL_part_20 : cL_part.data.toList.drop 20 = TL_part_20 := dr2 DL_part_18
theorem DL_part_21 : cL_part.data.toList.drop 21 = TL_part_21 := dr1 DL_part_20
theorem DL_part_22 : cL_part.data.toList.drop 22 = TL_part_22 := dr1 DL_part_21
theorem DL_part_23 : cL_part.data.toList.drop 23 = TL_part_23 := dr1 DL_part_22
theorem dL_part_0 : decode cL_part 0 = .ok (.aload_n 3, 1) := do_2d DL_part_0
theorem dL_part_1 : decode cL_part 1 = .ok (.aload_n 0, 1) := do_2a DL_part_1
theorem dL_part_2 : decode cL_part 2 = .ok (.iload_n 1, 1) := do_1b DL_part_2
theorem dL_part_3 : decode cL_part 3 = .ok (.iload_n 2, 1) := do_1c DL_part_3
theorem dL_part_4 : decode cL_part 4 = .ok (.invokevirtual 33, 3) := do_b6 DL_part_4
theorem dL_part_7 : decode cL_part 7 = .ok (.i2l, 1) := do_85 DL_part_7
theorem dL_part_8 : decode cL_part 8 = .ok (.putfield 13, 3) := do_b5 DL_part_8
theorem dL_part_11 : decode cL_part 11 = .ok (.goto 11, 3) := do_a7 DL_part_11 (by decide +kernel)
theorem dL_part_14 : decode cL_part 14 = .ok (.astore 4, 2) := do_3a DL_part_14
theorem dL_part_16 : decode cL_part 16 = .ok (.iconst 1, 1) := do_04 DL_part_16
theorem dL_part_17 : decode cL_part 17 = .ok (.ireturn, 1) := do_ac DL_part_17
theorem dL_part_18 : decode cL_part 18 = .ok (.astore 4, 2) := do_3a DL_part_18
theorem dL_part_20 : decode cL_part 20 = .ok (.iconst 2, 1) := do_05 DL_part_20
theorem dL_part_21 : decode cL_part 21 = .ok (.ireturn, 1) := do_ac DL_part_21
theorem dL_part_22 : decode cL_part 22 = .ok (.iconst 0, 1) := do_03 DL_part_22
theorem dL_part_23 : decode cL_part 23 = .ok (.ireturn, 1) := do_ac DL_part_23
def TL_walkText_25 : List UInt8 := []
def TL_walkText_24 : List UInt8 := 172 :: TL_walkText_25
def TL_walkText_23 : List UInt8 := 3 :: TL_walkText_24
def TL_walkText_22 : List UInt8 := 172 :: TL_walkText_23
def TL_walkText_21 : List UInt8 := 5 :: TL_walkText_22
def TL_walkText_19 : List UInt8 := 58 :: 5 :: TL_walkText_21
def TL_walkText_18 : List UInt8 := 172 :: TL_walkText_19
def TL_walkText_17 : List UInt8 := 4 :: TL_walkText_18
def TL_walkText_15 : List UInt8 := 58 :: 5 :: TL_walkText_17
def TL_walkText_12 : List UInt8 := 167 :: 0 :: 11 :: TL_walkText_15
def TL_walkText_9 : List UInt8 := 181 :: 0 :: 40 :: TL_walkText_12
def TL_walkText_6 : List UInt8 := 182 :: 0 :: 36 :: TL_walkText_9
def TL_walkText_5 : List UInt8 := 29 :: TL_walkText_6
def TL_walkText_4 : List UInt8 := 28 :: TL_walkText_5
def TL_walkText_3 : List UInt8 := 27 :: TL_walkText_4
def TL_walkText_2 : List UInt8 := 42 :: TL_walkText_3
def TL_walkText_0 : List UInt8 := 25 :: 4 :: TL_walkText_2
theorem DL_walkText_0 : cL_walkText.data.toList.drop 0 = TL_walkText_0 := by decide +kernel
theorem DL_walkText_2 : cL_walkText.data.toList.drop 2 = TL_walkText_2 := dr2 DL_walkText_0
theorem DL_walkText_3 : cL_walkText.data.toList.drop 3 = TL_walkText_3 := dr1 DL_walkText_2
theorem DL_walkText_4 : cL_walkText.data.toList.drop 4 = TL_walkText_4 := dr1 DL_walkText_3
theorem DL_walkText_5 : cL_walkText.data.toList.drop 5 = TL_walkText_5 := dr1 DL_walkText_4
theorem DL_walkText_6 : cL_walkText.data.toList.drop 6 = TL_walkText_6 := dr1 DL_walkText_5
theorem DL_walkText_9 : cL_walkText.data.toList.drop 9 = TL_walkText_9 := dr3 DL_walkText_6
theorem DL_walkText_12 : cL_walkText.data.toList.drop 12 = TL_walkText_12 := dr3 DL_walkText_9
theorem DL_walkText_15 : cL_walkText.data.toList.drop 15 = TL_walkText_15 := dr3 DL_walkText_12
theorem DL_walkText_17 : cL_walkText.data.toList.drop 17 = TL_walkText_17 := dr2 DL_walkText_15
theorem DL_walkText_18 : cL_walkText.data.toList.drop 18 = TL_walkText_18 := dr1 DL_walkText_17
theorem DL_walkText_19 : cL_walkText.data.toList.drop 19 = TL_walkText_19 := dr1 DL_walkText_18
theorem DL_walkText_21 : cL_walkText.data.toList.drop 21 = TL_walkText_21 := dr2 DL_walkText_19
theorem DL_walkText_22 : cL_walkText.data.toList.drop 22 = TL_walkText_22 := dr1 DL_walkText_21
theorem DL_walkText_23 : cL_walkText.data.toList.drop 23 = TL_walkText_23 := dr1 DL_walkText_22
theorem DL_walkText_24 : cL_walkText.data.toList.drop 24 = TL_walkText_24 := dr1 DL_walkText_23
theorem dL_walkText_0 : decode cL_walkText 0 = .ok (.aload 4, 2) := do_19 DL_walkText_0
theorem dL_walkText_2 : decode cL_walkText 2 = .ok (.aload_n 0, 1) := do_2a DL_walkText_2
theorem dL_walkText_3 : decode cL_walkText 3 = .ok (.iload_n 1, 1) := do_1b DL_walkText_3
theorem dL_walkText_4 : decode cL_walkText 4 = .ok (.iload_n 2, 1) := do_1c DL_walkText_4
theorem dL_walkText_5 : decode cL_walkText 5 = .ok (.iload_n 3, 1) := do_1d DL_walkText_5
theorem dL_walkText_6 : decode cL_walkText 6 = .ok (.invokevirtual 36, 3) := do_b6 DL_walkText_6
theorem dL_walkText_9 : decode cL_walkText 9 = .ok (.putfield 40, 3) := do_b5 DL_walkText_9
theorem dL_walkText_12 : decode cL_walkText 12 = .ok (.goto 11, 3) := do_a7 DL_walkText_12 (by decide +kernel)
theorem dL_walkText_15 : decode cL_walkText 15 = .ok (.astore 5, 2) := do_3a DL_walkText_15
theorem dL_walkText_17 : decode cL_walkText 17 = .ok (.iconst 1, 1) := do_04 DL_walkText_17
theorem dL_walkText_18 : decode cL_walkText 18 = .ok (.ireturn, 1) := do_ac DL_walkText_18
theorem dL_walkText_19 : decode cL_walkText 19 = .ok (.astore 5, 2) := do_3a DL_walkText_19
theorem dL_walkText_21 : decode cL_walkText 21 = .ok (.iconst 2, 1) := do_05 DL_walkText_21
theorem dL_walkText_22 : decode cL_walkText 22 = .ok (.ireturn, 1) := do_ac DL_walkText_22
theorem dL_walkText_23 : decode cL_walkText 23 = .ok (.iconst 0, 1) := do_03 DL_walkText_23
theorem dL_walkText_24 : decode cL_walkText 24 = .ok (.ireturn, 1) := do_ac DL_walkText_24
def TL_test_24 : List UInt8 := []
def TL_test_23 : List UInt8 := 172 :: TL_test_24
def TL_test_22 : List UInt8 := 3 :: TL_test_23
def TL_test_21 : List UInt8 := 172 :: TL_test_22
def TL_test_20 : List UInt8 := 5 :: TL_test_21
def TL_test_18 : List UInt8 := 58 :: 4 :: TL_test_20
def TL_test_17 : List UInt8 := 172 :: TL_test_18
def TL_test_16 : List UInt8 := 4 :: TL_test_17
def TL_test_14 : List UInt8 := 58 :: 4 :: TL_test_16
def TL_test_11 : List UInt8 := 167 :: 0 :: 11 :: TL_test_14
def TL_test_8 : List UInt8 := 181 :: 0 :: 13 :: TL_test_11
def TL_test_7 : List UInt8 := 133 :: TL_test_8
def TL_test_4 : List UInt8 := 182 :: 0 :: 44 :: TL_test_7
def TL_test_3 : List UInt8 := 28 :: TL_test_4
def TL_test_2 : List UInt8 := 27 :: TL_test_3
def TL_test_1 : List UInt8 := 42 :: TL_test_2
def TL_test_0 : List UInt8 := 45 :: TL_test_1
theorem DL_test_0 : cL_test.data.toList.drop 0 = TL_test_0 := by decide +kernel
theorem DL_test_1 : cL_test.data.toList.drop 1 = TL_test_1 := dr1 DL_test_0
theorem DL_test_2 : cL_test.data.toList.drop 2 = TL_test_2 := dr1 DL_test_1
theorem DL_test_3 : cL_test.data.toList.drop 3 = TL_test_3 := dr1 DL_test_2
theorem DL_test_4 : cL_test.data.toList.drop 4 = TL_test_4 := dr1 DL_test_3
theorem DL_test_7 : cL_test.data.toList.drop 7 = TL_test_7 := dr3 DL_test_4
theorem DL_test_8 : cL_test.data.toList.drop 8 = TL_test_8 := dr1 DL_test_7
theorem DL_test_11 : cL_test.data.toList.drop 11 = TL_test_11 := dr3 DL_test_8
theorem DL_test_14 : cL_test.data.toList.drop 14 = TL_test_14 := dr3 DL_test_11
theorem DL_test_16 : cL_test.data.toList.drop 16 = TL_test_16 := dr2 DL_test_14
theorem DL_test_17 : cL_test.data.toList.drop 17 = TL_test_17 := dr1 DL_test_16
theorem DL_test_18 : cL_test.data.toList.drop 18 = TL_test_18 := dr1 DL_test_17
theorem DL_test_20 : cL_test.data.toList.drop 20 = TL_test_20 := dr2 DL_test_18
theorem DL_test_21 : cL_test.data.toList.drop 21 = TL_test_21 := dr1 DL_test_20
theorem DL_test_22 : cL_test.data.toList.drop 22 = TL_test_22 := dr1 DL_test_21
theorem DL_test_23 : cL_test.data.toList.drop 23 = TL_test_23 := dr1 DL_test_22
theorem dL_test_0 : decode cL_test 0 = .ok (.aload_n 3, 1) := do_2d DL_test_0
theorem dL_test_1 : decode cL_test 1 = .ok (.aload_n 0, 1) := do_2a DL_test_1
theorem dL_test_2 : decode cL_test 2 = .ok (.iload_n 1, 1) := do_1b DL_test_2
theorem dL_test_3 : decode cL_test 3 = .ok (.iload_n 2, 1) := do_1c DL_test_3
theorem dL_test_4 : decode cL_test 4 = .ok (.invokevirtual 44, 3) := do_b6 DL_test_4
theorem dL_test_7 : decode cL_test 7 = .ok (.i2l, 1) := do_85 DL_test_7
theorem dL_test_8 : decode cL_test 8 = .ok (.putfield 13, 3) := do_b5 DL_test_8
theorem dL_test_11 : decode cL_test 11 = .ok (.goto 11, 3) := do_a7 DL_test_11 (by decide +kernel)
theorem dL_test_14 : decode cL_test 14 = .ok (.astore 4, 2) := do_3a DL_test_14
theorem dL_test_16 : decode cL_test 16 = .ok (.iconst 1, 1) := do_04 DL_test_16
theorem dL_test_17 : decode cL_test 17 = .ok (.ireturn, 1) := do_ac DL_test_17
theorem dL_test_18 : decode cL_test 18 = .ok (.astore 4, 2) := do_3a DL_test_18
theorem dL_test_20 : decode cL_test 20 = .ok (.iconst 2, 1) := do_05 DL_test_20
theorem dL_test_21 : decode cL_test 21 = .ok (.ireturn, 1) := do_ac DL_test_21
theorem dL_test_22 : decode cL_test 22 = .ok (.iconst 0, 1) := do_03 DL_test_22
theorem dL_test_23 : decode cL_test 23 = .ok (.ireturn, 1) := do_ac DL_test_23
def TL_walkBits_26 : List UInt8 := []
def TL_walkBits_25 : List UInt8 := 172 :: TL_walkBits_26
def TL_walkBits_24 : List UInt8 := 3 :: TL_walkBits_25
def TL_walkBits_23 : List UInt8 := 172 :: TL_walkBits_24
def TL_walkBits_22 : List UInt8 := 5 :: TL_walkBits_23
def TL_walkBits_20 : List UInt8 := 58 :: 5 :: TL_walkBits_22
def TL_walkBits_19 : List UInt8 := 172 :: TL_walkBits_20
def TL_walkBits_18 : List UInt8 := 4 :: TL_walkBits_19
def TL_walkBits_16 : List UInt8 := 58 :: 5 :: TL_walkBits_18
def TL_walkBits_13 : List UInt8 := 167 :: 0 :: 11 :: TL_walkBits_16
def TL_walkBits_10 : List UInt8 := 181 :: 0 :: 13 :: TL_walkBits_13
def TL_walkBits_9 : List UInt8 := 133 :: TL_walkBits_10
def TL_walkBits_6 : List UInt8 := 182 :: 0 :: 47 :: TL_walkBits_9
def TL_walkBits_5 : List UInt8 := 29 :: TL_walkBits_6
def TL_walkBits_4 : List UInt8 := 28 :: TL_walkBits_5
def TL_walkBits_3 : List UInt8 := 27 :: TL_walkBits_4
def TL_walkBits_2 : List UInt8 := 42 :: TL_walkBits_3
def TL_walkBits_0 : List UInt8 := 25 :: 4 :: TL_walkBits_2
theorem DL_walkBits_0 : cL_walkBits.data.toList.drop 0 = TL_walkBits_0 := by decide +kernel
theorem DL_walkBits_2 : cL_walkBits.data.toList.drop 2 = TL_walkBits_2 := dr2 DL_walkBits_0
theorem DL_walkBits_3 : cL_walkBits.data.toList.drop 3 = TL_walkBits_3 := dr1 DL_walkBits_2
theorem DL_walkBits_4 : cL_walkBits.data.toList.drop 4 = TL_walkBits_4 := dr1 DL_walkBits_3
theorem DL_walkBits_5 : cL_walkBits.data.toList.drop 5 = TL_walkBits_5 := dr1 DL_walkBits_4
theorem DL_walkBits_6 : cL_walkBits.data.toList.drop 6 = TL_walkBits_6 := dr1 DL_walkBits_5
theorem DL_walkBits_9 : cL_walkBits.data.toList.drop 9 = TL_walkBits_9 := dr3 DL_walkBits_6
theorem DL_walkBits_10 : cL_walkBits.data.toList.drop 10 = TL_walkBits_10 := dr1 DL_walkBits_9
theorem DL_walkBits_13 : cL_walkBits.data.toList.drop 13 = TL_walkBits_13 := dr3 DL_walkBits_10
theorem DL_walkBits_16 : cL_walkBits.data.toList.drop 16 = TL_walkBits_16 := dr3 DL_walkBits_13
theorem DL_walkBits_18 : cL_walkBits.data.toList.drop 18 = TL_walkBits_18 := dr2 DL_walkBits_16
theorem DL_walkBits_19 : cL_walkBits.data.toList.drop 19 = TL_walkBits_19 := dr1 DL_walkBits_18
theorem DL_walkBits_20 : cL_walkBits.data.toList.drop 20 = TL_walkBits_20 := dr1 DL_walkBits_19
theorem DL_walkBits_22 : cL_walkBits.data.toList.drop 22 = TL_walkBits_22 := dr2 DL_walkBits_20
theorem DL_walkBits_23 : cL_walkBits.data.toList.drop 23 = TL_walkBits_23 := dr1 DL_walkBits_22
theorem DL_walkBits_24 : cL_walkBits.data.toList.drop 24 = TL_walkBits_24 := dr1 DL_walkBits_23
theorem DL_walkBits_25 : cL_walkBits.data.toList.drop 25 = TL_walkBits_25 := dr1 DL_walkBits_24
theorem dL_walkBits_0 : decode cL_walkBits 0 = .ok (.aload 4, 2) := do_19 DL_walkBits_0
theorem dL_walkBits_2 : decode cL_walkBits 2 = .ok (.aload_n 0, 1) := do_2a DL_walkBits_2
theorem dL_walkBits_3 : decode cL_walkBits 3 = .ok (.iload_n 1, 1) := do_1b DL_walkBits_3
theorem dL_walkBits_4 : decode cL_walkBits 4 = .ok (.iload_n 2, 1) := do_1c DL_walkBits_4
theorem dL_walkBits_5 : decode cL_walkBits 5 = .ok (.iload_n 3, 1) := do_1d DL_walkBits_5
theorem dL_walkBits_6 : decode cL_walkBits 6 = .ok (.invokevirtual 47, 3) := do_b6 DL_walkBits_6
theorem dL_walkBits_9 : decode cL_walkBits 9 = .ok (.i2l, 1) := do_85 DL_walkBits_9
theorem dL_walkBits_10 : decode cL_walkBits 10 = .ok (.putfield 13, 3) := do_b5 DL_walkBits_10
theorem dL_walkBits_13 : decode cL_walkBits 13 = .ok (.goto 11, 3) := do_a7 DL_walkBits_13 (by decide +kernel)
theorem dL_walkBits_16 : decode cL_walkBits 16 = .ok (.astore 5, 2) := do_3a DL_walkBits_16
theorem dL_walkBits_18 : decode cL_walkBits 18 = .ok (.iconst 1, 1) := do_04 DL_walkBits_18
theorem dL_walkBits_19 : decode cL_walkBits 19 = .ok (.ireturn, 1) := do_ac DL_walkBits_19
theorem dL_walkBits_20 : decode cL_walkBits 20 = .ok (.astore 5, 2) := do_3a DL_walkBits_20
theorem dL_walkBits_22 : decode cL_walkBits 22 = .ok (.iconst 2, 1) := do_05 DL_walkBits_22
theorem dL_walkBits_23 : decode cL_walkBits 23 = .ok (.ireturn, 1) := do_ac DL_walkBits_23
theorem dL_walkBits_24 : decode cL_walkBits 24 = .ok (.iconst 0, 1) := do_03 DL_walkBits_24
theorem dL_walkBits_25 : decode cL_walkBits 25 = .ok (.ireturn, 1) := do_ac DL_walkBits_25
def TL_bit_33 : List UInt8 := []
def TL_bit_32 : List UInt8 := 172 :: TL_bit_33
def TL_bit_31 : List UInt8 := 3 :: TL_bit_32
def TL_bit_30 : List UInt8 := 172 :: TL_bit_31
def TL_bit_29 : List UInt8 := 5 :: TL_bit_30
def TL_bit_27 : List UInt8 := 58 :: 5 :: TL_bit_29
def TL_bit_26 : List UInt8 := 172 :: TL_bit_27
def TL_bit_25 : List UInt8 := 4 :: TL_bit_26
def TL_bit_23 : List UInt8 := 58 :: 5 :: TL_bit_25
def TL_bit_20 : List UInt8 := 167 :: 0 :: 11 :: TL_bit_23
def TL_bit_17 : List UInt8 := 181 :: 0 :: 13 :: TL_bit_20
def TL_bit_16 : List UInt8 := 9 :: TL_bit_17
def TL_bit_13 : List UInt8 := 167 :: 0 :: 4 :: TL_bit_16
def TL_bit_12 : List UInt8 := 10 :: TL_bit_13
def TL_bit_9 : List UInt8 := 153 :: 0 :: 7 :: TL_bit_12
def TL_bit_6 : List UInt8 := 182 :: 0 :: 51 :: TL_bit_9
def TL_bit_5 : List UInt8 := 29 :: TL_bit_6
def TL_bit_4 : List UInt8 := 28 :: TL_bit_5
def TL_bit_3 : List UInt8 := 27 :: TL_bit_4
def TL_bit_2 : List UInt8 := 42 :: TL_bit_3
def TL_bit_0 : List UInt8 := 25 :: 4 :: TL_bit_2
theorem DL_bit_0 : cL_bit.data.toList.drop 0 = TL_bit_0 := by decide +kernel
theorem DL_bit_2 : cL_bit.data.toList.drop 2 = TL_bit_2 := dr2 DL_bit_0
theorem DL_bit_3 : cL_bit.data.toList.drop 3 = TL_bit_3 := dr1 DL_bit_2
theorem DL_bit_4 : cL_bit.data.toList.drop 4 = TL_bit_4 := dr1 DL_bit_3
theorem DL_bit_5 : cL_bit.data.toList.drop 5 = TL_bit_5 := dr1 DL_bit_4
theorem DL_bit_6 : cL_bit.data.toList.drop 6 = TL_bit_6 := dr1 DL_bit_5
theorem DL_bit_9 : cL_bit.data.toList.drop 9 = TL_bit_9 := dr3 DL_bit_6
theorem DL_bit_12 : cL_bit.data.toList.drop 12 = TL_bit_12 := dr3 DL_bit_9
theorem DL_bit_13 : cL_bit.data.toList.drop 13 = TL_bit_13 := dr1 DL_bit_12
theorem DL_bit_16 : cL_bit.data.toList.drop 16 = TL_bit_16 := dr3 DL_bit_13
theorem DL_bit_17 : cL_bit.data.toList.drop 17 = TL_bit_17 := dr1 DL_bit_16
theorem DL_bit_20 : cL_bit.data.toList.drop 20 = TL_bit_20 := dr3 DL_bit_17
theorem DL_bit_23 : cL_bit.data.toList.drop 23 = TL_bit_23 := dr3 DL_bit_20
theorem DL_bit_25 : cL_bit.data.toList.drop 25 = TL_bit_25 := dr2 DL_bit_23
theorem DL_bit_26 : cL_bit.data.toList.drop 26 = TL_bit_26 := dr1 DL_bit_25
theorem DL_bit_27 : cL_bit.data.toList.drop 27 = TL_bit_27 := dr1 DL_bit_26
theorem DL_bit_29 : cL_bit.data.toList.drop 29 = TL_bit_29 := dr2 DL_bit_27
theorem DL_bit_30 : cL_bit.data.toList.drop 30 = TL_bit_30 := dr1 DL_bit_29
theorem DL_bit_31 : cL_bit.data.toList.drop 31 = TL_bit_31 := dr1 DL_bit_30
theorem DL_bit_32 : cL_bit.data.toList.drop 32 = TL_bit_32 := dr1 DL_bit_31
theorem dL_bit_0 : decode cL_bit 0 = .ok (.aload 4, 2) := do_19 DL_bit_0
theorem dL_bit_2 : decode cL_bit 2 = .ok (.aload_n 0, 1) := do_2a DL_bit_2
theorem dL_bit_3 : decode cL_bit 3 = .ok (.iload_n 1, 1) := do_1b DL_bit_3
theorem dL_bit_4 : decode cL_bit 4 = .ok (.iload_n 2, 1) := do_1c DL_bit_4
theorem dL_bit_5 : decode cL_bit 5 = .ok (.iload_n 3, 1) := do_1d DL_bit_5
theorem dL_bit_6 : decode cL_bit 6 = .ok (.invokevirtual 51, 3) := do_b6 DL_bit_6
theorem dL_bit_9 : decode cL_bit 9 = .ok (.ifCond .eq 7, 3) := do_99 DL_bit_9 (by decide +kernel)
theorem dL_bit_12 : decode cL_bit 12 = .ok (.lconst 1, 1) := do_0a DL_bit_12
theorem dL_bit_13 : decode cL_bit 13 = .ok (.goto 4, 3) := do_a7 DL_bit_13 (by decide +kernel)
theorem dL_bit_16 : decode cL_bit 16 = .ok (.lconst 0, 1) := do_09 DL_bit_16
theorem dL_bit_17 : decode cL_bit 17 = .ok (.putfield 13, 3) := do_b5 DL_bit_17
theorem dL_bit_20 : decode cL_bit 20 = .ok (.goto 11, 3) := do_a7 DL_bit_20 (by decide +kernel)
theorem dL_bit_23 : decode cL_bit 23 = .ok (.astore 5, 2) := do_3a DL_bit_23
theorem dL_bit_25 : decode cL_bit 25 = .ok (.iconst 1, 1) := do_04 DL_bit_25
theorem dL_bit_26 : decode cL_bit 26 = .ok (.ireturn, 1) := do_ac DL_bit_26
theorem dL_bit_27 : decode cL_bit 27 = .ok (.astore 5, 2) := do_3a DL_bit_27
theorem dL_bit_29 : decode cL_bit 29 = .ok (.iconst 2, 1) := do_05 DL_bit_29
theorem dL_bit_30 : decode cL_bit 30 = .ok (.ireturn, 1) := do_ac DL_bit_30
theorem dL_bit_31 : decode cL_bit 31 = .ok (.iconst 0, 1) := do_03 DL_bit_31
theorem dL_bit_32 : decode cL_bit 32 = .ok (.ireturn, 1) := do_ac DL_bit_32
def TL_isRead_31 : List UInt8 := []
def TL_isRead_30 : List UInt8 := 172 :: TL_isRead_31
def TL_isRead_29 : List UInt8 := 3 :: TL_isRead_30
def TL_isRead_28 : List UInt8 := 172 :: TL_isRead_29
def TL_isRead_27 : List UInt8 := 5 :: TL_isRead_28
def TL_isRead_25 : List UInt8 := 58 :: 4 :: TL_isRead_27
def TL_isRead_24 : List UInt8 := 172 :: TL_isRead_25
def TL_isRead_23 : List UInt8 := 4 :: TL_isRead_24
def TL_isRead_21 : List UInt8 := 58 :: 4 :: TL_isRead_23
def TL_isRead_18 : List UInt8 := 167 :: 0 :: 11 :: TL_isRead_21
def TL_isRead_15 : List UInt8 := 181 :: 0 :: 13 :: TL_isRead_18
def TL_isRead_14 : List UInt8 := 9 :: TL_isRead_15
def TL_isRead_11 : List UInt8 := 167 :: 0 :: 4 :: TL_isRead_14
def TL_isRead_10 : List UInt8 := 10 :: TL_isRead_11
def TL_isRead_7 : List UInt8 := 153 :: 0 :: 7 :: TL_isRead_10
def TL_isRead_4 : List UInt8 := 182 :: 0 :: 55 :: TL_isRead_7
def TL_isRead_3 : List UInt8 := 28 :: TL_isRead_4
def TL_isRead_2 : List UInt8 := 27 :: TL_isRead_3
def TL_isRead_1 : List UInt8 := 42 :: TL_isRead_2
def TL_isRead_0 : List UInt8 := 45 :: TL_isRead_1
theorem DL_isRead_0 : cL_isRead.data.toList.drop 0 = TL_isRead_0 := by decide +kernel
theorem DL_isRead_1 : cL_isRead.data.toList.drop 1 = TL_isRead_1 := dr1 DL_isRead_0
theorem DL_isRead_2 : cL_isRead.data.toList.drop 2 = TL_isRead_2 := dr1 DL_isRead_1
theorem DL_isRead_3 : cL_isRead.data.toList.drop 3 = TL_isRead_3 := dr1 DL_isRead_2
theorem DL_isRead_4 : cL_isRead.data.toList.drop 4 = TL_isRead_4 := dr1 DL_isRead_3
theorem DL_isRead_7 : cL_isRead.data.toList.drop 7 = TL_isRead_7 := dr3 DL_isRead_4
theorem DL_isRead_10 : cL_isRead.data.toList.drop 10 = TL_isRead_10 := dr3 DL_isRead_7
theorem DL_isRead_11 : cL_isRead.data.toList.drop 11 = TL_isRead_11 := dr1 DL_isRead_10
theorem DL_isRead_14 : cL_isRead.data.toList.drop 14 = TL_isRead_14 := dr3 DL_isRead_11
theorem DL_isRead_15 : cL_isRead.data.toList.drop 15 = TL_isRead_15 := dr1 DL_isRead_14
theorem DL_isRead_18 : cL_isRead.data.toList.drop 18 = TL_isRead_18 := dr3 DL_isRead_15
theorem DL_isRead_21 : cL_isRead.data.toList.drop 21 = TL_isRead_21 := dr3 DL_isRead_18
theorem DL_isRead_23 : cL_isRead.data.toList.drop 23 = TL_isRead_23 := dr2 DL_isRead_21
theorem DL_isRead_24 : cL_isRead.data.toList.drop 24 = TL_isRead_24 := dr1 DL_isRead_23
theorem DL_isRead_25 : cL_isRead.data.toList.drop 25 = TL_isRead_25 := dr1 DL_isRead_24
theorem DL_isRead_27 : cL_isRead.data.toList.drop 27 = TL_isRead_27 := dr2 DL_isRead_25
theorem DL_isRead_28 : cL_isRead.data.toList.drop 28 = TL_isRead_28 := dr1 DL_isRead_27
theorem DL_isRead_29 : cL_isRead.data.toList.drop 29 = TL_isRead_29 := dr1 DL_isRead_28
theorem DL_isRead_30 : cL_isRead.data.toList.drop 30 = TL_isRead_30 := dr1 DL_isRead_29
theorem dL_isRead_0 : decode cL_isRead 0 = .ok (.aload_n 3, 1) := do_2d DL_isRead_0
theorem dL_isRead_1 : decode cL_isRead 1 = .ok (.aload_n 0, 1) := do_2a DL_isRead_1
theorem dL_isRead_2 : decode cL_isRead 2 = .ok (.iload_n 1, 1) := do_1b DL_isRead_2
theorem dL_isRead_3 : decode cL_isRead 3 = .ok (.iload_n 2, 1) := do_1c DL_isRead_3
theorem dL_isRead_4 : decode cL_isRead 4 = .ok (.invokevirtual 55, 3) := do_b6 DL_isRead_4
theorem dL_isRead_7 : decode cL_isRead 7 = .ok (.ifCond .eq 7, 3) := do_99 DL_isRead_7 (by decide +kernel)
theorem dL_isRead_10 : decode cL_isRead 10 = .ok (.lconst 1, 1) := do_0a DL_isRead_10
theorem dL_isRead_11 : decode cL_isRead 11 = .ok (.goto 4, 3) := do_a7 DL_isRead_11 (by decide +kernel)
theorem dL_isRead_14 : decode cL_isRead 14 = .ok (.lconst 0, 1) := do_09 DL_isRead_14
theorem dL_isRead_15 : decode cL_isRead 15 = .ok (.putfield 13, 3) := do_b5 DL_isRead_15
theorem dL_isRead_18 : decode cL_isRead 18 = .ok (.goto 11, 3) := do_a7 DL_isRead_18 (by decide +kernel)
theorem dL_isRead_21 : decode cL_isRead 21 = .ok (.astore 4, 2) := do_3a DL_isRead_21
theorem dL_isRead_23 : decode cL_isRead 23 = .ok (.iconst 1, 1) := do_04 DL_isRead_23
theorem dL_isRead_24 : decode cL_isRead 24 = .ok (.ireturn, 1) := do_ac DL_isRead_24
theorem dL_isRead_25 : decode cL_isRead 25 = .ok (.astore 4, 2) := do_3a DL_isRead_25
theorem dL_isRead_27 : decode cL_isRead 27 = .ok (.iconst 2, 1) := do_05 DL_isRead_27
theorem dL_isRead_28 : decode cL_isRead 28 = .ok (.ireturn, 1) := do_ac DL_isRead_28
theorem dL_isRead_29 : decode cL_isRead 29 = .ok (.iconst 0, 1) := do_03 DL_isRead_29
theorem dL_isRead_30 : decode cL_isRead 30 = .ok (.ireturn, 1) := do_ac DL_isRead_30
def TL_isNear_31 : List UInt8 := []
def TL_isNear_30 : List UInt8 := 172 :: TL_isNear_31
def TL_isNear_29 : List UInt8 := 3 :: TL_isNear_30
def TL_isNear_28 : List UInt8 := 172 :: TL_isNear_29
def TL_isNear_27 : List UInt8 := 5 :: TL_isNear_28
def TL_isNear_25 : List UInt8 := 58 :: 4 :: TL_isNear_27
def TL_isNear_24 : List UInt8 := 172 :: TL_isNear_25
def TL_isNear_23 : List UInt8 := 4 :: TL_isNear_24
def TL_isNear_21 : List UInt8 := 58 :: 4 :: TL_isNear_23
def TL_isNear_18 : List UInt8 := 167 :: 0 :: 11 :: TL_isNear_21
def TL_isNear_15 : List UInt8 := 181 :: 0 :: 13 :: TL_isNear_18
def TL_isNear_14 : List UInt8 := 9 :: TL_isNear_15
def TL_isNear_11 : List UInt8 := 167 :: 0 :: 4 :: TL_isNear_14
def TL_isNear_10 : List UInt8 := 10 :: TL_isNear_11
def TL_isNear_7 : List UInt8 := 153 :: 0 :: 7 :: TL_isNear_10
def TL_isNear_4 : List UInt8 := 182 :: 0 :: 59 :: TL_isNear_7
def TL_isNear_3 : List UInt8 := 28 :: TL_isNear_4
def TL_isNear_2 : List UInt8 := 27 :: TL_isNear_3
def TL_isNear_1 : List UInt8 := 42 :: TL_isNear_2
def TL_isNear_0 : List UInt8 := 45 :: TL_isNear_1
theorem DL_isNear_0 : cL_isNear.data.toList.drop 0 = TL_isNear_0 := by decide +kernel
theorem DL_isNear_1 : cL_isNear.data.toList.drop 1 = TL_isNear_1 := dr1 DL_isNear_0
theorem DL_isNear_2 : cL_isNear.data.toList.drop 2 = TL_isNear_2 := dr1 DL_isNear_1
theorem DL_isNear_3 : cL_isNear.data.toList.drop 3 = TL_isNear_3 := dr1 DL_isNear_2
theorem DL_isNear_4 : cL_isNear.data.toList.drop 4 = TL_isNear_4 := dr1 DL_isNear_3
theorem DL_isNear_7 : cL_isNear.data.toList.drop 7 = TL_isNear_7 := dr3 DL_isNear_4
theorem DL_isNear_10 : cL_isNear.data.toList.drop 10 = TL_isNear_10 := dr3 DL_isNear_7
theorem DL_isNear_11 : cL_isNear.data.toList.drop 11 = TL_isNear_11 := dr1 DL_isNear_10
theorem DL_isNear_14 : cL_isNear.data.toList.drop 14 = TL_isNear_14 := dr3 DL_isNear_11
theorem DL_isNear_15 : cL_isNear.data.toList.drop 15 = TL_isNear_15 := dr1 DL_isNear_14
theorem DL_isNear_18 : cL_isNear.data.toList.drop 18 = TL_isNear_18 := dr3 DL_isNear_15
theorem DL_isNear_21 : cL_isNear.data.toList.drop 21 = TL_isNear_21 := dr3 DL_isNear_18
theorem DL_isNear_23 : cL_isNear.data.toList.drop 23 = TL_isNear_23 := dr2 DL_isNear_21
theorem DL_isNear_24 : cL_isNear.data.toList.drop 24 = TL_isNear_24 := dr1 DL_isNear_23
theorem DL_isNear_25 : cL_isNear.data.toList.drop 25 = TL_isNear_25 := dr1 DL_isNear_24
theorem DL_isNear_27 : cL_isNear.data.toList.drop 27 = TL_isNear_27 := dr2 DL_isNear_25
theorem DL_isNear_28 : cL_isNear.data.toList.drop 28 = TL_isNear_28 := dr1 DL_isNear_27
theorem DL_isNear_29 : cL_isNear.data.toList.drop 29 = TL_isNear_29 := dr1 DL_isNear_28
theorem DL_isNear_30 : cL_isNear.data.toList.drop 30 = TL_isNear_30 := dr1 DL_isNear_29
theorem dL_isNear_0 : decode cL_isNear 0 = .ok (.aload_n 3, 1) := do_2d DL_isNear_0
theorem dL_isNear_1 : decode cL_isNear 1 = .ok (.aload_n 0, 1) := do_2a DL_isNear_1
theorem dL_isNear_2 : decode cL_isNear 2 = .ok (.iload_n 1, 1) := do_1b DL_isNear_2
theorem dL_isNear_3 : decode cL_isNear 3 = .ok (.iload_n 2, 1) := do_1c DL_isNear_3
theorem dL_isNear_4 : decode cL_isNear 4 = .ok (.invokevirtual 59, 3) := do_b6 DL_isNear_4
theorem dL_isNear_7 : decode cL_isNear 7 = .ok (.ifCond .eq 7, 3) := do_99 DL_isNear_7 (by decide +kernel)
theorem dL_isNear_10 : decode cL_isNear 10 = .ok (.lconst 1, 1) := do_0a DL_isNear_10
theorem dL_isNear_11 : decode cL_isNear 11 = .ok (.goto 4, 3) := do_a7 DL_isNear_11 (by decide +kernel)
theorem dL_isNear_14 : decode cL_isNear 14 = .ok (.lconst 0, 1) := do_09 DL_isNear_14
theorem dL_isNear_15 : decode cL_isNear 15 = .ok (.putfield 13, 3) := do_b5 DL_isNear_15
theorem dL_isNear_18 : decode cL_isNear 18 = .ok (.goto 11, 3) := do_a7 DL_isNear_18 (by decide +kernel)
theorem dL_isNear_21 : decode cL_isNear 21 = .ok (.astore 4, 2) := do_3a DL_isNear_21
theorem dL_isNear_23 : decode cL_isNear 23 = .ok (.iconst 1, 1) := do_04 DL_isNear_23
theorem dL_isNear_24 : decode cL_isNear 24 = .ok (.ireturn, 1) := do_ac DL_isNear_24
theorem dL_isNear_25 : decode cL_isNear 25 = .ok (.astore 4, 2) := do_3a DL_isNear_25
theorem dL_isNear_27 : decode cL_isNear 27 = .ok (.iconst 2, 1) := do_05 DL_isNear_27
theorem dL_isNear_28 : decode cL_isNear 28 = .ok (.ireturn, 1) := do_ac DL_isNear_28
theorem dL_isNear_29 : decode cL_isNear 29 = .ok (.iconst 0, 1) := do_03 DL_isNear_29
theorem dL_isNear_30 : decode cL_isNear 30 = .ok (.ireturn, 1) := do_ac DL_isNear_30
def TL_decimals_23 : List UInt8 := []
def TL_decimals_22 : List UInt8 := 172 :: TL_decimals_23
def TL_decimals_21 : List UInt8 := 3 :: TL_decimals_22
def TL_decimals_20 : List UInt8 := 172 :: TL_decimals_21
def TL_decimals_19 : List UInt8 := 5 :: TL_decimals_20
def TL_decimals_17 : List UInt8 := 58 :: 4 :: TL_decimals_19
def TL_decimals_16 : List UInt8 := 172 :: TL_decimals_17
def TL_decimals_15 : List UInt8 := 4 :: TL_decimals_16
def TL_decimals_13 : List UInt8 := 58 :: 4 :: TL_decimals_15
def TL_decimals_10 : List UInt8 := 167 :: 0 :: 11 :: TL_decimals_13
def TL_decimals_7 : List UInt8 := 181 :: 0 :: 40 :: TL_decimals_10
def TL_decimals_4 : List UInt8 := 182 :: 0 :: 62 :: TL_decimals_7
def TL_decimals_3 : List UInt8 := 28 :: TL_decimals_4
def TL_decimals_2 : List UInt8 := 27 :: TL_decimals_3
def TL_decimals_1 : List UInt8 := 42 :: TL_decimals_2
def TL_decimals_0 : List UInt8 := 45 :: TL_decimals_1
theorem DL_decimals_0 : cL_decimals.data.toList.drop 0 = TL_decimals_0 := by decide +kernel
theorem DL_decimals_1 : cL_decimals.data.toList.drop 1 = TL_decimals_1 := dr1 DL_decimals_0
theorem DL_decimals_2 : cL_decimals.data.toList.drop 2 = TL_decimals_2 := dr1 DL_decimals_1
theorem DL_decimals_3 : cL_decimals.data.toList.drop 3 = TL_decimals_3 := dr1 DL_decimals_2
theorem DL_decimals_4 : cL_decimals.data.toList.drop 4 = TL_decimals_4 := dr1 DL_decimals_3
theorem DL_decimals_7 : cL_decimals.data.toList.drop 7 = TL_decimals_7 := dr3 DL_decimals_4
theorem DL_decimals_10 : cL_decimals.data.toList.drop 10 = TL_decimals_10 := dr3 DL_decimals_7
theorem DL_decimals_13 : cL_decimals.data.toList.drop 13 = TL_decimals_13 := dr3 DL_decimals_10
theorem DL_decimals_15 : cL_decimals.data.toList.drop 15 = TL_decimals_15 := dr2 DL_decimals_13
theorem DL_decimals_16 : cL_decimals.data.toList.drop 16 = TL_decimals_16 := dr1 DL_decimals_15
theorem DL_decimals_17 : cL_decimals.data.toList.drop 17 = TL_decimals_17 := dr1 DL_decimals_16
theorem DL_decimals_19 : cL_decimals.data.toList.drop 19 = TL_decimals_19 := dr2 DL_decimals_17
theorem DL_decimals_20 : cL_decimals.data.toList.drop 20 = TL_decimals_20 := dr1 DL_decimals_19
theorem DL_decimals_21 : cL_decimals.data.toList.drop 21 = TL_decimals_21 := dr1 DL_decimals_20
theorem DL_decimals_22 : cL_decimals.data.toList.drop 22 = TL_decimals_22 := dr1 DL_decimals_21
theorem dL_decimals_0 : decode cL_decimals 0 = .ok (.aload_n 3, 1) := do_2d DL_decimals_0
theorem dL_decimals_1 : decode cL_decimals 1 = .ok (.aload_n 0, 1) := do_2a DL_decimals_1
theorem dL_decimals_2 : decode cL_decimals 2 = .ok (.iload_n 1, 1) := do_1b DL_decimals_2
theorem dL_decimals_3 : decode cL_decimals 3 = .ok (.iload_n 2, 1) := do_1c DL_decimals_3
theorem dL_decimals_4 : decode cL_decimals 4 = .ok (.invokevirtual 62, 3) := do_b6 DL_decimals_4
theorem dL_decimals_7 : decode cL_decimals 7 = .ok (.putfield 40, 3) := do_b5 DL_decimals_7
theorem dL_decimals_10 : decode cL_decimals 10 = .ok (.goto 11, 3) := do_a7 DL_decimals_10 (by decide +kernel)
theorem dL_decimals_13 : decode cL_decimals 13 = .ok (.astore 4, 2) := do_3a DL_decimals_13
theorem dL_decimals_15 : decode cL_decimals 15 = .ok (.iconst 1, 1) := do_04 DL_decimals_15
theorem dL_decimals_16 : decode cL_decimals 16 = .ok (.ireturn, 1) := do_ac DL_decimals_16
theorem dL_decimals_17 : decode cL_decimals 17 = .ok (.astore 4, 2) := do_3a DL_decimals_17
theorem dL_decimals_19 : decode cL_decimals 19 = .ok (.iconst 2, 1) := do_05 DL_decimals_19
theorem dL_decimals_20 : decode cL_decimals 20 = .ok (.ireturn, 1) := do_ac DL_decimals_20
theorem dL_decimals_21 : decode cL_decimals 21 = .ok (.iconst 0, 1) := do_03 DL_decimals_21
theorem dL_decimals_22 : decode cL_decimals 22 = .ok (.ireturn, 1) := do_ac DL_decimals_22
def TL_alike_18 : List UInt8 := []
def TL_alike_17 : List UInt8 := 172 :: TL_alike_18
def TL_alike_16 : List UInt8 := 3 :: TL_alike_17
def TL_alike_15 : List UInt8 := 172 :: TL_alike_16
def TL_alike_14 : List UInt8 := 4 :: TL_alike_15
def TL_alike_13 : List UInt8 := 78 :: TL_alike_14
def TL_alike_10 : List UInt8 := 167 :: 0 :: 6 :: TL_alike_13
def TL_alike_7 : List UInt8 := 181 :: 0 :: 13 :: TL_alike_10
def TL_alike_6 : List UInt8 := 133 :: TL_alike_7
def TL_alike_3 : List UInt8 := 182 :: 0 :: 66 :: TL_alike_6
def TL_alike_2 : List UInt8 := 27 :: TL_alike_3
def TL_alike_1 : List UInt8 := 42 :: TL_alike_2
def TL_alike_0 : List UInt8 := 44 :: TL_alike_1
theorem DL_alike_0 : cL_alike.data.toList.drop 0 = TL_alike_0 := by decide +kernel
theorem DL_alike_1 : cL_alike.data.toList.drop 1 = TL_alike_1 := dr1 DL_alike_0
theorem DL_alike_2 : cL_alike.data.toList.drop 2 = TL_alike_2 := dr1 DL_alike_1
theorem DL_alike_3 : cL_alike.data.toList.drop 3 = TL_alike_3 := dr1 DL_alike_2
theorem DL_alike_6 : cL_alike.data.toList.drop 6 = TL_alike_6 := dr3 DL_alike_3
theorem DL_alike_7 : cL_alike.data.toList.drop 7 = TL_alike_7 := dr1 DL_alike_6
theorem DL_alike_10 : cL_alike.data.toList.drop 10 = TL_alike_10 := dr3 DL_alike_7
theorem DL_alike_13 : cL_alike.data.toList.drop 13 = TL_alike_13 := dr3 DL_alike_10
theorem DL_alike_14 : cL_alike.data.toList.drop 14 = TL_alike_14 := dr1 DL_alike_13
theorem DL_alike_15 : cL_alike.data.toList.drop 15 = TL_alike_15 := dr1 DL_alike_14
theorem DL_alike_16 : cL_alike.data.toList.drop 16 = TL_alike_16 := dr1 DL_alike_15
theorem DL_alike_17 : cL_alike.data.toList.drop 17 = TL_alike_17 := dr1 DL_alike_16
theorem dL_alike_0 : decode cL_alike 0 = .ok (.aload_n 2, 1) := do_2c DL_alike_0
theorem dL_alike_1 : decode cL_alike 1 = .ok (.aload_n 0, 1) := do_2a DL_alike_1
theorem dL_alike_2 : decode cL_alike 2 = .ok (.iload_n 1, 1) := do_1b DL_alike_2
theorem dL_alike_3 : decode cL_alike 3 = .ok (.invokevirtual 66, 3) := do_b6 DL_alike_3
theorem dL_alike_6 : decode cL_alike 6 = .ok (.i2l, 1) := do_85 DL_alike_6
theorem dL_alike_7 : decode cL_alike 7 = .ok (.putfield 13, 3) := do_b5 DL_alike_7
theorem dL_alike_10 : decode cL_alike 10 = .ok (.goto 6, 3) := do_a7 DL_alike_10 (by decide +kernel)
theorem dL_alike_13 : decode cL_alike 13 = .ok (.astore_n 3, 1) := do_4e DL_alike_13
theorem dL_alike_14 : decode cL_alike 14 = .ok (.iconst 1, 1) := do_04 DL_alike_14
theorem dL_alike_15 : decode cL_alike 15 = .ok (.ireturn, 1) := do_ac DL_alike_15
theorem dL_alike_16 : decode cL_alike 16 = .ok (.iconst 0, 1) := do_03 DL_alike_16
theorem dL_alike_17 : decode cL_alike 17 = .ok (.ireturn, 1) := do_ac DL_alike_17
def TL_rootText_19 : List UInt8 := []
def TL_rootText_18 : List UInt8 := 172 :: TL_rootText_19
def TL_rootText_17 : List UInt8 := 3 :: TL_rootText_18
def TL_rootText_16 : List UInt8 := 172 :: TL_rootText_17
def TL_rootText_15 : List UInt8 := 4 :: TL_rootText_16
def TL_rootText_13 : List UInt8 := 58 :: 4 :: TL_rootText_15
def TL_rootText_10 : List UInt8 := 167 :: 0 :: 7 :: TL_rootText_13
def TL_rootText_7 : List UInt8 := 181 :: 0 :: 40 :: TL_rootText_10
def TL_rootText_4 : List UInt8 := 182 :: 0 :: 69 :: TL_rootText_7
def TL_rootText_3 : List UInt8 := 28 :: TL_rootText_4
def TL_rootText_2 : List UInt8 := 27 :: TL_rootText_3
def TL_rootText_1 : List UInt8 := 42 :: TL_rootText_2
def TL_rootText_0 : List UInt8 := 45 :: TL_rootText_1
theorem DL_rootText_0 : cL_rootText.data.toList.drop 0 = TL_rootText_0 := by decide +kernel
theorem DL_rootText_1 : cL_rootText.data.toList.drop 1 = TL_rootText_1 := dr1 DL_rootText_0
theorem DL_rootText_2 : cL_rootText.data.toList.drop 2 = TL_rootText_2 := dr1 DL_rootText_1
theorem DL_rootText_3 : cL_rootText.data.toList.drop 3 = TL_rootText_3 := dr1 DL_rootText_2
theorem DL_rootText_4 : cL_rootText.data.toList.drop 4 = TL_rootText_4 := dr1 DL_rootText_3
theorem DL_rootText_7 : cL_rootText.data.toList.drop 7 = TL_rootText_7 := dr3 DL_rootText_4
theorem DL_rootText_10 : cL_rootText.data.toList.drop 10 = TL_rootText_10 := dr3 DL_rootText_7
theorem DL_rootText_13 : cL_rootText.data.toList.drop 13 = TL_rootText_13 := dr3 DL_rootText_10
theorem DL_rootText_15 : cL_rootText.data.toList.drop 15 = TL_rootText_15 := dr2 DL_rootText_13
theorem DL_rootText_16 : cL_rootText.data.toList.drop 16 = TL_rootText_16 := dr1 DL_rootText_15
theorem DL_rootText_17 : cL_rootText.data.toList.drop 17 = TL_rootText_17 := dr1 DL_rootText_16
theorem DL_rootText_18 : cL_rootText.data.toList.drop 18 = TL_rootText_18 := dr1 DL_rootText_17
theorem dL_rootText_0 : decode cL_rootText 0 = .ok (.aload_n 3, 1) := do_2d DL_rootText_0
theorem dL_rootText_1 : decode cL_rootText 1 = .ok (.aload_n 0, 1) := do_2a DL_rootText_1
theorem dL_rootText_2 : decode cL_rootText 2 = .ok (.iload_n 1, 1) := do_1b DL_rootText_2
theorem dL_rootText_3 : decode cL_rootText 3 = .ok (.iload_n 2, 1) := do_1c DL_rootText_3
theorem dL_rootText_4 : decode cL_rootText 4 = .ok (.invokevirtual 69, 3) := do_b6 DL_rootText_4
theorem dL_rootText_7 : decode cL_rootText 7 = .ok (.putfield 40, 3) := do_b5 DL_rootText_7
theorem dL_rootText_10 : decode cL_rootText 10 = .ok (.goto 7, 3) := do_a7 DL_rootText_10 (by decide +kernel)
theorem dL_rootText_13 : decode cL_rootText 13 = .ok (.astore 4, 2) := do_3a DL_rootText_13
theorem dL_rootText_15 : decode cL_rootText 15 = .ok (.iconst 1, 1) := do_04 DL_rootText_15
theorem dL_rootText_16 : decode cL_rootText 16 = .ok (.ireturn, 1) := do_ac DL_rootText_16
theorem dL_rootText_17 : decode cL_rootText 17 = .ok (.iconst 0, 1) := do_03 DL_rootText_17
theorem dL_rootText_18 : decode cL_rootText 18 = .ok (.ireturn, 1) := do_ac DL_rootText_18
def TL_period_18 : List UInt8 := []
def TL_period_17 : List UInt8 := 172 :: TL_period_18
def TL_period_16 : List UInt8 := 3 :: TL_period_17
def TL_period_15 : List UInt8 := 172 :: TL_period_16
def TL_period_14 : List UInt8 := 4 :: TL_period_15
def TL_period_13 : List UInt8 := 78 :: TL_period_14
def TL_period_10 : List UInt8 := 167 :: 0 :: 6 :: TL_period_13
def TL_period_7 : List UInt8 := 181 :: 0 :: 13 :: TL_period_10
def TL_period_6 : List UInt8 := 133 :: TL_period_7
def TL_period_3 : List UInt8 := 182 :: 0 :: 72 :: TL_period_6
def TL_period_2 : List UInt8 := 27 :: TL_period_3
def TL_period_1 : List UInt8 := 42 :: TL_period_2
def TL_period_0 : List UInt8 := 44 :: TL_period_1
theorem DL_period_0 : cL_period.data.toList.drop 0 = TL_period_0 := by decide +kernel
theorem DL_period_1 : cL_period.data.toList.drop 1 = TL_period_1 := dr1 DL_period_0
theorem DL_period_2 : cL_period.data.toList.drop 2 = TL_period_2 := dr1 DL_period_1
theorem DL_period_3 : cL_period.data.toList.drop 3 = TL_period_3 := dr1 DL_period_2
theorem DL_period_6 : cL_period.data.toList.drop 6 = TL_period_6 := dr3 DL_period_3
theorem DL_period_7 : cL_period.data.toList.drop 7 = TL_period_7 := dr1 DL_period_6
theorem DL_period_10 : cL_period.data.toList.drop 10 = TL_period_10 := dr3 DL_period_7
theorem DL_period_13 : cL_period.data.toList.drop 13 = TL_period_13 := dr3 DL_period_10
theorem DL_period_14 : cL_period.data.toList.drop 14 = TL_period_14 := dr1 DL_period_13
theorem DL_period_15 : cL_period.data.toList.drop 15 = TL_period_15 := dr1 DL_period_14
theorem DL_period_16 : cL_period.data.toList.drop 16 = TL_period_16 := dr1 DL_period_15
theorem DL_period_17 : cL_period.data.toList.drop 17 = TL_period_17 := dr1 DL_period_16
theorem dL_period_0 : decode cL_period 0 = .ok (.aload_n 2, 1) := do_2c DL_period_0
theorem dL_period_1 : decode cL_period 1 = .ok (.aload_n 0, 1) := do_2a DL_period_1
theorem dL_period_2 : decode cL_period 2 = .ok (.iload_n 1, 1) := do_1b DL_period_2
theorem dL_period_3 : decode cL_period 3 = .ok (.invokevirtual 72, 3) := do_b6 DL_period_3
theorem dL_period_6 : decode cL_period 6 = .ok (.i2l, 1) := do_85 DL_period_6
theorem dL_period_7 : decode cL_period 7 = .ok (.putfield 13, 3) := do_b5 DL_period_7
theorem dL_period_10 : decode cL_period 10 = .ok (.goto 6, 3) := do_a7 DL_period_10 (by decide +kernel)
theorem dL_period_13 : decode cL_period 13 = .ok (.astore_n 3, 1) := do_4e DL_period_13
theorem dL_period_14 : decode cL_period 14 = .ok (.iconst 1, 1) := do_04 DL_period_14
theorem dL_period_15 : decode cL_period 15 = .ok (.ireturn, 1) := do_ac DL_period_15
theorem dL_period_16 : decode cL_period 16 = .ok (.iconst 0, 1) := do_03 DL_period_16
theorem dL_period_17 : decode cL_period 17 = .ok (.ireturn, 1) := do_ac DL_period_17
def TL_periodText_17 : List UInt8 := []
def TL_periodText_16 : List UInt8 := 172 :: TL_periodText_17
def TL_periodText_15 : List UInt8 := 3 :: TL_periodText_16
def TL_periodText_14 : List UInt8 := 172 :: TL_periodText_15
def TL_periodText_13 : List UInt8 := 4 :: TL_periodText_14
def TL_periodText_12 : List UInt8 := 78 :: TL_periodText_13
def TL_periodText_9 : List UInt8 := 167 :: 0 :: 6 :: TL_periodText_12
def TL_periodText_6 : List UInt8 := 181 :: 0 :: 40 :: TL_periodText_9
def TL_periodText_3 : List UInt8 := 182 :: 0 :: 75 :: TL_periodText_6
def TL_periodText_2 : List UInt8 := 27 :: TL_periodText_3
def TL_periodText_1 : List UInt8 := 42 :: TL_periodText_2
def TL_periodText_0 : List UInt8 := 44 :: TL_periodText_1
theorem DL_periodText_0 : cL_periodText.data.toList.drop 0 = TL_periodText_0 := by decide +kernel
theorem DL_periodText_1 : cL_periodText.data.toList.drop 1 = TL_periodText_1 := dr1 DL_periodText_0
theorem DL_periodText_2 : cL_periodText.data.toList.drop 2 = TL_periodText_2 := dr1 DL_periodText_1
theorem DL_periodText_3 : cL_periodText.data.toList.drop 3 = TL_periodText_3 := dr1 DL_periodText_2
theorem DL_periodText_6 : cL_periodText.data.toList.drop 6 = TL_periodText_6 := dr3 DL_periodText_3
theorem DL_periodText_9 : cL_periodText.data.toList.drop 9 = TL_periodText_9 := dr3 DL_periodText_6
theorem DL_periodText_12 : cL_periodText.data.toList.drop 12 = TL_periodText_12 := dr3 DL_periodText_9
theorem DL_periodText_13 : cL_periodText.data.toList.drop 13 = TL_periodText_13 := dr1 DL_periodText_12
theorem DL_periodText_14 : cL_periodText.data.toList.drop 14 = TL_periodText_14 := dr1 DL_periodText_13
theorem DL_periodText_15 : cL_periodText.data.toList.drop 15 = TL_periodText_15 := dr1 DL_periodText_14
theorem DL_periodText_16 : cL_periodText.data.toList.drop 16 = TL_periodText_16 := dr1 DL_periodText_15
theorem dL_periodText_0 : decode cL_periodText 0 = .ok (.aload_n 2, 1) := do_2c DL_periodText_0
theorem dL_periodText_1 : decode cL_periodText 1 = .ok (.aload_n 0, 1) := do_2a DL_periodText_1
theorem dL_periodText_2 : decode cL_periodText 2 = .ok (.iload_n 1, 1) := do_1b DL_periodText_2
theorem dL_periodText_3 : decode cL_periodText 3 = .ok (.invokevirtual 75, 3) := do_b6 DL_periodText_3
theorem dL_periodText_6 : decode cL_periodText 6 = .ok (.putfield 40, 3) := do_b5 DL_periodText_6
theorem dL_periodText_9 : decode cL_periodText 9 = .ok (.goto 6, 3) := do_a7 DL_periodText_9 (by decide +kernel)
theorem dL_periodText_12 : decode cL_periodText 12 = .ok (.astore_n 3, 1) := do_4e DL_periodText_12
theorem dL_periodText_13 : decode cL_periodText 13 = .ok (.iconst 1, 1) := do_04 DL_periodText_13
theorem dL_periodText_14 : decode cL_periodText 14 = .ok (.ireturn, 1) := do_ac DL_periodText_14
theorem dL_periodText_15 : decode cL_periodText 15 = .ok (.iconst 0, 1) := do_03 DL_periodText_15
theorem dL_periodText_16 : decode cL_periodText 16 = .ok (.ireturn, 1) := do_ac DL_periodText_16
def TL_solution_19 : List UInt8 := []
def TL_solution_18 : List UInt8 := 172 :: TL_solution_19
def TL_solution_17 : List UInt8 := 3 :: TL_solution_18
def TL_solution_16 : List UInt8 := 172 :: TL_solution_17
def TL_solution_15 : List UInt8 := 4 :: TL_solution_16
def TL_solution_13 : List UInt8 := 58 :: 4 :: TL_solution_15
def TL_solution_10 : List UInt8 := 167 :: 0 :: 7 :: TL_solution_13
def TL_solution_7 : List UInt8 := 181 :: 0 :: 40 :: TL_solution_10
def TL_solution_4 : List UInt8 := 182 :: 0 :: 79 :: TL_solution_7
def TL_solution_3 : List UInt8 := 28 :: TL_solution_4
def TL_solution_2 : List UInt8 := 27 :: TL_solution_3
def TL_solution_1 : List UInt8 := 42 :: TL_solution_2
def TL_solution_0 : List UInt8 := 45 :: TL_solution_1
theorem DL_solution_0 : cL_solution.data.toList.drop 0 = TL_solution_0 := by decide +kernel
theorem DL_solution_1 : cL_solution.data.toList.drop 1 = TL_solution_1 := dr1 DL_solution_0
theorem DL_solution_2 : cL_solution.data.toList.drop 2 = TL_solution_2 := dr1 DL_solution_1
theorem DL_solution_3 : cL_solution.data.toList.drop 3 = TL_solution_3 := dr1 DL_solution_2
theorem DL_solution_4 : cL_solution.data.toList.drop 4 = TL_solution_4 := dr1 DL_solution_3
theorem DL_solution_7 : cL_solution.data.toList.drop 7 = TL_solution_7 := dr3 DL_solution_4
theorem DL_solution_10 : cL_solution.data.toList.drop 10 = TL_solution_10 := dr3 DL_solution_7
theorem DL_solution_13 : cL_solution.data.toList.drop 13 = TL_solution_13 := dr3 DL_solution_10
theorem DL_solution_15 : cL_solution.data.toList.drop 15 = TL_solution_15 := dr2 DL_solution_13
theorem DL_solution_16 : cL_solution.data.toList.drop 16 = TL_solution_16 := dr1 DL_solution_15
theorem DL_solution_17 : cL_solution.data.toList.drop 17 = TL_solution_17 := dr1 DL_solution_16
theorem DL_solution_18 : cL_solution.data.toList.drop 18 = TL_solution_18 := dr1 DL_solution_17
theorem dL_solution_0 : decode cL_solution 0 = .ok (.aload_n 3, 1) := do_2d DL_solution_0
theorem dL_solution_1 : decode cL_solution 1 = .ok (.aload_n 0, 1) := do_2a DL_solution_1
theorem dL_solution_2 : decode cL_solution 2 = .ok (.iload_n 1, 1) := do_1b DL_solution_2
theorem dL_solution_3 : decode cL_solution 3 = .ok (.iload_n 2, 1) := do_1c DL_solution_3
theorem dL_solution_4 : decode cL_solution 4 = .ok (.invokevirtual 79, 3) := do_b6 DL_solution_4
theorem dL_solution_7 : decode cL_solution 7 = .ok (.putfield 40, 3) := do_b5 DL_solution_7
theorem dL_solution_10 : decode cL_solution 10 = .ok (.goto 7, 3) := do_a7 DL_solution_10 (by decide +kernel)
theorem dL_solution_13 : decode cL_solution 13 = .ok (.astore 4, 2) := do_3a DL_solution_13
theorem dL_solution_15 : decode cL_solution 15 = .ok (.iconst 1, 1) := do_04 DL_solution_15
theorem dL_solution_16 : decode cL_solution 16 = .ok (.ireturn, 1) := do_ac DL_solution_16
theorem dL_solution_17 : decode cL_solution 17 = .ok (.iconst 0, 1) := do_03 DL_solution_17
theorem dL_solution_18 : decode cL_solution 18 = .ok (.ireturn, 1) := do_ac DL_solution_18
def TL_minus_19 : List UInt8 := []
def TL_minus_18 : List UInt8 := 172 :: TL_minus_19
def TL_minus_17 : List UInt8 := 3 :: TL_minus_18
def TL_minus_16 : List UInt8 := 172 :: TL_minus_17
def TL_minus_15 : List UInt8 := 4 :: TL_minus_16
def TL_minus_13 : List UInt8 := 58 :: 4 :: TL_minus_15
def TL_minus_10 : List UInt8 := 167 :: 0 :: 7 :: TL_minus_13
def TL_minus_7 : List UInt8 := 181 :: 0 :: 40 :: TL_minus_10
def TL_minus_4 : List UInt8 := 182 :: 0 :: 83 :: TL_minus_7
def TL_minus_3 : List UInt8 := 28 :: TL_minus_4
def TL_minus_2 : List UInt8 := 27 :: TL_minus_3
def TL_minus_1 : List UInt8 := 42 :: TL_minus_2
def TL_minus_0 : List UInt8 := 45 :: TL_minus_1
theorem DL_minus_0 : cL_minus.data.toList.drop 0 = TL_minus_0 := by decide +kernel
theorem DL_minus_1 : cL_minus.data.toList.drop 1 = TL_minus_1 := dr1 DL_minus_0
theorem DL_minus_2 : cL_minus.data.toList.drop 2 = TL_minus_2 := dr1 DL_minus_1
theorem DL_minus_3 : cL_minus.data.toList.drop 3 = TL_minus_3 := dr1 DL_minus_2
theorem DL_minus_4 : cL_minus.data.toList.drop 4 = TL_minus_4 := dr1 DL_minus_3
theorem DL_minus_7 : cL_minus.data.toList.drop 7 = TL_minus_7 := dr3 DL_minus_4
theorem DL_minus_10 : cL_minus.data.toList.drop 10 = TL_minus_10 := dr3 DL_minus_7
theorem DL_minus_13 : cL_minus.data.toList.drop 13 = TL_minus_13 := dr3 DL_minus_10
theorem DL_minus_15 : cL_minus.data.toList.drop 15 = TL_minus_15 := dr2 DL_minus_13
theorem DL_minus_16 : cL_minus.data.toList.drop 16 = TL_minus_16 := dr1 DL_minus_15
theorem DL_minus_17 : cL_minus.data.toList.drop 17 = TL_minus_17 := dr1 DL_minus_16
theorem DL_minus_18 : cL_minus.data.toList.drop 18 = TL_minus_18 := dr1 DL_minus_17
theorem dL_minus_0 : decode cL_minus 0 = .ok (.aload_n 3, 1) := do_2d DL_minus_0
theorem dL_minus_1 : decode cL_minus 1 = .ok (.aload_n 0, 1) := do_2a DL_minus_1
theorem dL_minus_2 : decode cL_minus 2 = .ok (.iload_n 1, 1) := do_1b DL_minus_2
theorem dL_minus_3 : decode cL_minus 3 = .ok (.iload_n 2, 1) := do_1c DL_minus_3
theorem dL_minus_4 : decode cL_minus 4 = .ok (.invokevirtual 83, 3) := do_b6 DL_minus_4
theorem dL_minus_7 : decode cL_minus 7 = .ok (.putfield 40, 3) := do_b5 DL_minus_7
theorem dL_minus_10 : decode cL_minus 10 = .ok (.goto 7, 3) := do_a7 DL_minus_10 (by decide +kernel)
theorem dL_minus_13 : decode cL_minus 13 = .ok (.astore 4, 2) := do_3a DL_minus_13
theorem dL_minus_15 : decode cL_minus 15 = .ok (.iconst 1, 1) := do_04 DL_minus_15
theorem dL_minus_16 : decode cL_minus 16 = .ok (.ireturn, 1) := do_ac DL_minus_16
theorem dL_minus_17 : decode cL_minus 17 = .ok (.iconst 0, 1) := do_03 DL_minus_17
theorem dL_minus_18 : decode cL_minus 18 = .ok (.ireturn, 1) := do_ac DL_minus_18
def TL_middle_17 : List UInt8 := []
def TL_middle_16 : List UInt8 := 172 :: TL_middle_17
def TL_middle_15 : List UInt8 := 3 :: TL_middle_16
def TL_middle_14 : List UInt8 := 172 :: TL_middle_15
def TL_middle_13 : List UInt8 := 4 :: TL_middle_14
def TL_middle_12 : List UInt8 := 78 :: TL_middle_13
def TL_middle_9 : List UInt8 := 167 :: 0 :: 6 :: TL_middle_12
def TL_middle_6 : List UInt8 := 181 :: 0 :: 40 :: TL_middle_9
def TL_middle_3 : List UInt8 := 182 :: 0 :: 86 :: TL_middle_6
def TL_middle_2 : List UInt8 := 27 :: TL_middle_3
def TL_middle_1 : List UInt8 := 42 :: TL_middle_2
def TL_middle_0 : List UInt8 := 44 :: TL_middle_1
theorem DL_middle_0 : cL_middle.data.toList.drop 0 = TL_middle_0 := by decide +kernel
theorem DL_middle_1 : cL_middle.data.toList.drop 1 = TL_middle_1 := dr1 DL_middle_0
theorem DL_middle_2 : cL_middle.data.toList.drop 2 = TL_middle_2 := dr1 DL_middle_1
theorem DL_middle_3 : cL_middle.data.toList.drop 3 = TL_middle_3 := dr1 DL_middle_2
theorem DL_middle_6 : cL_middle.data.toList.drop 6 = TL_middle_6 := dr3 DL_middle_3
theorem DL_middle_9 : cL_middle.data.toList.drop 9 = TL_middle_9 := dr3 DL_middle_6
theorem DL_middle_12 : cL_middle.data.toList.drop 12 = TL_middle_12 := dr3 DL_middle_9
theorem DL_middle_13 : cL_middle.data.toList.drop 13 = TL_middle_13 := dr1 DL_middle_12
theorem DL_middle_14 : cL_middle.data.toList.drop 14 = TL_middle_14 := dr1 DL_middle_13
theorem DL_middle_15 : cL_middle.data.toList.drop 15 = TL_middle_15 := dr1 DL_middle_14
theorem DL_middle_16 : cL_middle.data.toList.drop 16 = TL_middle_16 := dr1 DL_middle_15
theorem dL_middle_0 : decode cL_middle 0 = .ok (.aload_n 2, 1) := do_2c DL_middle_0
theorem dL_middle_1 : decode cL_middle 1 = .ok (.aload_n 0, 1) := do_2a DL_middle_1
theorem dL_middle_2 : decode cL_middle 2 = .ok (.iload_n 1, 1) := do_1b DL_middle_2
theorem dL_middle_3 : decode cL_middle 3 = .ok (.invokevirtual 86, 3) := do_b6 DL_middle_3
theorem dL_middle_6 : decode cL_middle 6 = .ok (.putfield 40, 3) := do_b5 DL_middle_6
theorem dL_middle_9 : decode cL_middle 9 = .ok (.goto 6, 3) := do_a7 DL_middle_9 (by decide +kernel)
theorem dL_middle_12 : decode cL_middle 12 = .ok (.astore_n 3, 1) := do_4e DL_middle_12
theorem dL_middle_13 : decode cL_middle 13 = .ok (.iconst 1, 1) := do_04 DL_middle_13
theorem dL_middle_14 : decode cL_middle 14 = .ok (.ireturn, 1) := do_ac DL_middle_14
theorem dL_middle_15 : decode cL_middle 15 = .ok (.iconst 0, 1) := do_03 DL_middle_15
theorem dL_middle_16 : decode cL_middle 16 = .ok (.ireturn, 1) := do_ac DL_middle_16
def TL_put_28 : List UInt8 := []
def TL_put_27 : List UInt8 := 172 :: TL_put_28
def TL_put_26 : List UInt8 := 3 :: TL_put_27
def TL_put_25 : List UInt8 := 172 :: TL_put_26
def TL_put_24 : List UInt8 := 5 :: TL_put_25
def TL_put_22 : List UInt8 := 58 :: 6 :: TL_put_24
def TL_put_21 : List UInt8 := 172 :: TL_put_22
def TL_put_20 : List UInt8 := 4 :: TL_put_21
def TL_put_18 : List UInt8 := 58 :: 6 :: TL_put_20
def TL_put_15 : List UInt8 := 167 :: 0 :: 11 :: TL_put_18
def TL_put_12 : List UInt8 := 181 :: 0 :: 13 :: TL_put_15
def TL_put_11 : List UInt8 := 133 :: TL_put_12
def TL_put_8 : List UInt8 := 182 :: 0 :: 89 :: TL_put_11
def TL_put_6 : List UInt8 := 21 :: 4 :: TL_put_8
def TL_put_5 : List UInt8 := 29 :: TL_put_6
def TL_put_4 : List UInt8 := 28 :: TL_put_5
def TL_put_3 : List UInt8 := 27 :: TL_put_4
def TL_put_2 : List UInt8 := 42 :: TL_put_3
def TL_put_0 : List UInt8 := 25 :: 5 :: TL_put_2
theorem DL_put_0 : cL_put.data.toList.drop 0 = TL_put_0 := by decide +kernel
theorem DL_put_2 : cL_put.data.toList.drop 2 = TL_put_2 := dr2 DL_put_0
theorem DL_put_3 : cL_put.data.toList.drop 3 = TL_put_3 := dr1 DL_put_2
theorem DL_put_4 : cL_put.data.toList.drop 4 = TL_put_4 := dr1 DL_put_3
theorem DL_put_5 : cL_put.data.toList.drop 5 = TL_put_5 := dr1 DL_put_4
theorem DL_put_6 : cL_put.data.toList.drop 6 = TL_put_6 := dr1 DL_put_5
theorem DL_put_8 : cL_put.data.toList.drop 8 = TL_put_8 := dr2 DL_put_6
theorem DL_put_11 : cL_put.data.toList.drop 11 = TL_put_11 := dr3 DL_put_8
theorem DL_put_12 : cL_put.data.toList.drop 12 = TL_put_12 := dr1 DL_put_11
theorem DL_put_15 : cL_put.data.toList.drop 15 = TL_put_15 := dr3 DL_put_12
theorem DL_put_18 : cL_put.data.toList.drop 18 = TL_put_18 := dr3 DL_put_15
theorem DL_put_20 : cL_put.data.toList.drop 20 = TL_put_20 := dr2 DL_put_18
theorem DL_put_21 : cL_put.data.toList.drop 21 = TL_put_21 := dr1 DL_put_20
theorem DL_put_22 : cL_put.data.toList.drop 22 = TL_put_22 := dr1 DL_put_21
theorem DL_put_24 : cL_put.data.toList.drop 24 = TL_put_24 := dr2 DL_put_22
theorem DL_put_25 : cL_put.data.toList.drop 25 = TL_put_25 := dr1 DL_put_24
theorem DL_put_26 : cL_put.data.toList.drop 26 = TL_put_26 := dr1 DL_put_25
theorem DL_put_27 : cL_put.data.toList.drop 27 = TL_put_27 := dr1 DL_put_26
theorem dL_put_0 : decode cL_put 0 = .ok (.aload 5, 2) := do_19 DL_put_0
theorem dL_put_2 : decode cL_put 2 = .ok (.aload_n 0, 1) := do_2a DL_put_2
theorem dL_put_3 : decode cL_put 3 = .ok (.iload_n 1, 1) := do_1b DL_put_3
theorem dL_put_4 : decode cL_put 4 = .ok (.iload_n 2, 1) := do_1c DL_put_4
theorem dL_put_5 : decode cL_put 5 = .ok (.iload_n 3, 1) := do_1d DL_put_5
theorem dL_put_6 : decode cL_put 6 = .ok (.iload 4, 2) := do_15 DL_put_6
theorem dL_put_8 : decode cL_put 8 = .ok (.invokevirtual 89, 3) := do_b6 DL_put_8
theorem dL_put_11 : decode cL_put 11 = .ok (.i2l, 1) := do_85 DL_put_11
theorem dL_put_12 : decode cL_put 12 = .ok (.putfield 13, 3) := do_b5 DL_put_12
theorem dL_put_15 : decode cL_put 15 = .ok (.goto 11, 3) := do_a7 DL_put_15 (by decide +kernel)
theorem dL_put_18 : decode cL_put 18 = .ok (.astore 6, 2) := do_3a DL_put_18
theorem dL_put_20 : decode cL_put 20 = .ok (.iconst 1, 1) := do_04 DL_put_20
theorem dL_put_21 : decode cL_put 21 = .ok (.ireturn, 1) := do_ac DL_put_21
theorem dL_put_22 : decode cL_put 22 = .ok (.astore 6, 2) := do_3a DL_put_22
theorem dL_put_24 : decode cL_put 24 = .ok (.iconst 2, 1) := do_05 DL_put_24
theorem dL_put_25 : decode cL_put 25 = .ok (.ireturn, 1) := do_ac DL_put_25
theorem dL_put_26 : decode cL_put 26 = .ok (.iconst 0, 1) := do_03 DL_put_26
theorem dL_put_27 : decode cL_put 27 = .ok (.ireturn, 1) := do_ac DL_put_27
def TL_take_20 : List UInt8 := []
def TL_take_19 : List UInt8 := 172 :: TL_take_20
def TL_take_18 : List UInt8 := 3 :: TL_take_19
def TL_take_17 : List UInt8 := 172 :: TL_take_18
def TL_take_16 : List UInt8 := 4 :: TL_take_17
def TL_take_14 : List UInt8 := 58 :: 4 :: TL_take_16
def TL_take_11 : List UInt8 := 167 :: 0 :: 7 :: TL_take_14
def TL_take_8 : List UInt8 := 181 :: 0 :: 13 :: TL_take_11
def TL_take_7 : List UInt8 := 133 :: TL_take_8
def TL_take_4 : List UInt8 := 182 :: 0 :: 93 :: TL_take_7
def TL_take_3 : List UInt8 := 28 :: TL_take_4
def TL_take_2 : List UInt8 := 27 :: TL_take_3
def TL_take_1 : List UInt8 := 42 :: TL_take_2
def TL_take_0 : List UInt8 := 45 :: TL_take_1
theorem DL_take_0 : cL_take.data.toList.drop 0 = TL_take_0 := by decide +kernel
theorem DL_take_1 : cL_take.data.toList.drop 1 = TL_take_1 := dr1 DL_take_0
theorem DL_take_2 : cL_take.data.toList.drop 2 = TL_take_2 := dr1 DL_take_1
theorem DL_take_3 : cL_take.data.toList.drop 3 = TL_take_3 := dr1 DL_take_2
theorem DL_take_4 : cL_take.data.toList.drop 4 = TL_take_4 := dr1 DL_take_3
theorem DL_take_7 : cL_take.data.toList.drop 7 = TL_take_7 := dr3 DL_take_4
theorem DL_take_8 : cL_take.data.toList.drop 8 = TL_take_8 := dr1 DL_take_7
theorem DL_take_11 : cL_take.data.toList.drop 11 = TL_take_11 := dr3 DL_take_8
theorem DL_take_14 : cL_take.data.toList.drop 14 = TL_take_14 := dr3 DL_take_11
theorem DL_take_16 : cL_take.data.toList.drop 16 = TL_take_16 := dr2 DL_take_14
theorem DL_take_17 : cL_take.data.toList.drop 17 = TL_take_17 := dr1 DL_take_16
theorem DL_take_18 : cL_take.data.toList.drop 18 = TL_take_18 := dr1 DL_take_17
theorem DL_take_19 : cL_take.data.toList.drop 19 = TL_take_19 := dr1 DL_take_18
theorem dL_take_0 : decode cL_take 0 = .ok (.aload_n 3, 1) := do_2d DL_take_0
theorem dL_take_1 : decode cL_take 1 = .ok (.aload_n 0, 1) := do_2a DL_take_1
theorem dL_take_2 : decode cL_take 2 = .ok (.iload_n 1, 1) := do_1b DL_take_2
theorem dL_take_3 : decode cL_take 3 = .ok (.iload_n 2, 1) := do_1c DL_take_3
theorem dL_take_4 : decode cL_take 4 = .ok (.invokevirtual 93, 3) := do_b6 DL_take_4
theorem dL_take_7 : decode cL_take 7 = .ok (.i2l, 1) := do_85 DL_take_7
theorem dL_take_8 : decode cL_take 8 = .ok (.putfield 13, 3) := do_b5 DL_take_8
theorem dL_take_11 : decode cL_take 11 = .ok (.goto 7, 3) := do_a7 DL_take_11 (by decide +kernel)
theorem dL_take_14 : decode cL_take 14 = .ok (.astore 4, 2) := do_3a DL_take_14
theorem dL_take_16 : decode cL_take 16 = .ok (.iconst 1, 1) := do_04 DL_take_16
theorem dL_take_17 : decode cL_take 17 = .ok (.ireturn, 1) := do_ac DL_take_17
theorem dL_take_18 : decode cL_take 18 = .ok (.iconst 0, 1) := do_03 DL_take_18
theorem dL_take_19 : decode cL_take 19 = .ok (.ireturn, 1) := do_ac DL_take_19
def TL_least_24 : List UInt8 := []
def TL_least_23 : List UInt8 := 172 :: TL_least_24
def TL_least_22 : List UInt8 := 3 :: TL_least_23
def TL_least_21 : List UInt8 := 172 :: TL_least_22
def TL_least_20 : List UInt8 := 5 :: TL_least_21
def TL_least_18 : List UInt8 := 58 :: 4 :: TL_least_20
def TL_least_17 : List UInt8 := 172 :: TL_least_18
def TL_least_16 : List UInt8 := 4 :: TL_least_17
def TL_least_14 : List UInt8 := 58 :: 4 :: TL_least_16
def TL_least_11 : List UInt8 := 167 :: 0 :: 11 :: TL_least_14
def TL_least_8 : List UInt8 := 181 :: 0 :: 13 :: TL_least_11
def TL_least_7 : List UInt8 := 133 :: TL_least_8
def TL_least_4 : List UInt8 := 182 :: 0 :: 96 :: TL_least_7
def TL_least_3 : List UInt8 := 28 :: TL_least_4
def TL_least_2 : List UInt8 := 27 :: TL_least_3
def TL_least_1 : List UInt8 := 42 :: TL_least_2
def TL_least_0 : List UInt8 := 45 :: TL_least_1
theorem DL_least_0 : cL_least.data.toList.drop 0 = TL_least_0 := by decide +kernel
theorem DL_least_1 : cL_least.data.toList.drop 1 = TL_least_1 := dr1 DL_least_0
theorem DL_least_2 : cL_least.data.toList.drop 2 = TL_least_2 := dr1 DL_least_1
theorem DL_least_3 : cL_least.data.toList.drop 3 = TL_least_3 := dr1 DL_least_2
theorem DL_least_4 : cL_least.data.toList.drop 4 = TL_least_4 := dr1 DL_least_3
theorem DL_least_7 : cL_least.data.toList.drop 7 = TL_least_7 := dr3 DL_least_4
theorem DL_least_8 : cL_least.data.toList.drop 8 = TL_least_8 := dr1 DL_least_7
theorem DL_least_11 : cL_least.data.toList.drop 11 = TL_least_11 := dr3 DL_least_8
theorem DL_least_14 : cL_least.data.toList.drop 14 = TL_least_14 := dr3 DL_least_11
theorem DL_least_16 : cL_least.data.toList.drop 16 = TL_least_16 := dr2 DL_least_14
theorem DL_least_17 : cL_least.data.toList.drop 17 = TL_least_17 := dr1 DL_least_16
theorem DL_least_18 : cL_least.data.toList.drop 18 = TL_least_18 := dr1 DL_least_17
theorem DL_least_20 : cL_least.data.toList.drop 20 = TL_least_20 := dr2 DL_least_18
theorem DL_least_21 : cL_least.data.toList.drop 21 = TL_least_21 := dr1 DL_least_20
theorem DL_least_22 : cL_least.data.toList.drop 22 = TL_least_22 := dr1 DL_least_21
theorem DL_least_23 : cL_least.data.toList.drop 23 = TL_least_23 := dr1 DL_least_22
theorem dL_least_0 : decode cL_least 0 = .ok (.aload_n 3, 1) := do_2d DL_least_0
theorem dL_least_1 : decode cL_least 1 = .ok (.aload_n 0, 1) := do_2a DL_least_1
theorem dL_least_2 : decode cL_least 2 = .ok (.iload_n 1, 1) := do_1b DL_least_2
theorem dL_least_3 : decode cL_least 3 = .ok (.iload_n 2, 1) := do_1c DL_least_3
theorem dL_least_4 : decode cL_least 4 = .ok (.invokevirtual 96, 3) := do_b6 DL_least_4
theorem dL_least_7 : decode cL_least 7 = .ok (.i2l, 1) := do_85 DL_least_7
theorem dL_least_8 : decode cL_least 8 = .ok (.putfield 13, 3) := do_b5 DL_least_8
theorem dL_least_11 : decode cL_least 11 = .ok (.goto 11, 3) := do_a7 DL_least_11 (by decide +kernel)
theorem dL_least_14 : decode cL_least 14 = .ok (.astore 4, 2) := do_3a DL_least_14
theorem dL_least_16 : decode cL_least 16 = .ok (.iconst 1, 1) := do_04 DL_least_16
theorem dL_least_17 : decode cL_least 17 = .ok (.ireturn, 1) := do_ac DL_least_17
theorem dL_least_18 : decode cL_least 18 = .ok (.astore 4, 2) := do_3a DL_least_18
theorem dL_least_20 : decode cL_least 20 = .ok (.iconst 2, 1) := do_05 DL_least_20
theorem dL_least_21 : decode cL_least 21 = .ok (.ireturn, 1) := do_ac DL_least_21
theorem dL_least_22 : decode cL_least 22 = .ok (.iconst 0, 1) := do_03 DL_least_22
theorem dL_least_23 : decode cL_least 23 = .ok (.ireturn, 1) := do_ac DL_least_23
def TL_compose_22 : List UInt8 := []
def TL_compose_21 : List UInt8 := 172 :: TL_compose_22
def TL_compose_20 : List UInt8 := 3 :: TL_compose_21
def TL_compose_19 : List UInt8 := 172 :: TL_compose_20
def TL_compose_18 : List UInt8 := 4 :: TL_compose_19
def TL_compose_16 : List UInt8 := 58 :: 5 :: TL_compose_18
def TL_compose_13 : List UInt8 := 167 :: 0 :: 7 :: TL_compose_16
def TL_compose_10 : List UInt8 := 181 :: 0 :: 13 :: TL_compose_13
def TL_compose_9 : List UInt8 := 133 :: TL_compose_10
def TL_compose_6 : List UInt8 := 182 :: 0 :: 99 :: TL_compose_9
def TL_compose_5 : List UInt8 := 29 :: TL_compose_6
def TL_compose_4 : List UInt8 := 28 :: TL_compose_5
def TL_compose_3 : List UInt8 := 27 :: TL_compose_4
def TL_compose_2 : List UInt8 := 42 :: TL_compose_3
def TL_compose_0 : List UInt8 := 25 :: 4 :: TL_compose_2
theorem DL_compose_0 : cL_compose.data.toList.drop 0 = TL_compose_0 := by decide +kernel
theorem DL_compose_2 : cL_compose.data.toList.drop 2 = TL_compose_2 := dr2 DL_compose_0
theorem DL_compose_3 : cL_compose.data.toList.drop 3 = TL_compose_3 := dr1 DL_compose_2
theorem DL_compose_4 : cL_compose.data.toList.drop 4 = TL_compose_4 := dr1 DL_compose_3
theorem DL_compose_5 : cL_compose.data.toList.drop 5 = TL_compose_5 := dr1 DL_compose_4
theorem DL_compose_6 : cL_compose.data.toList.drop 6 = TL_compose_6 := dr1 DL_compose_5
theorem DL_compose_9 : cL_compose.data.toList.drop 9 = TL_compose_9 := dr3 DL_compose_6
theorem DL_compose_10 : cL_compose.data.toList.drop 10 = TL_compose_10 := dr1 DL_compose_9
theorem DL_compose_13 : cL_compose.data.toList.drop 13 = TL_compose_13 := dr3 DL_compose_10
theorem DL_compose_16 : cL_compose.data.toList.drop 16 = TL_compose_16 := dr3 DL_compose_13
theorem DL_compose_18 : cL_compose.data.toList.drop 18 = TL_compose_18 := dr2 DL_compose_16
theorem DL_compose_19 : cL_compose.data.toList.drop 19 = TL_compose_19 := dr1 DL_compose_18
theorem DL_compose_20 : cL_compose.data.toList.drop 20 = TL_compose_20 := dr1 DL_compose_19
theorem DL_compose_21 : cL_compose.data.toList.drop 21 = TL_compose_21 := dr1 DL_compose_20
theorem dL_compose_0 : decode cL_compose 0 = .ok (.aload 4, 2) := do_19 DL_compose_0
theorem dL_compose_2 : decode cL_compose 2 = .ok (.aload_n 0, 1) := do_2a DL_compose_2
theorem dL_compose_3 : decode cL_compose 3 = .ok (.iload_n 1, 1) := do_1b DL_compose_3
theorem dL_compose_4 : decode cL_compose 4 = .ok (.iload_n 2, 1) := do_1c DL_compose_4
theorem dL_compose_5 : decode cL_compose 5 = .ok (.iload_n 3, 1) := do_1d DL_compose_5
theorem dL_compose_6 : decode cL_compose 6 = .ok (.invokevirtual 99, 3) := do_b6 DL_compose_6
theorem dL_compose_9 : decode cL_compose 9 = .ok (.i2l, 1) := do_85 DL_compose_9
theorem dL_compose_10 : decode cL_compose 10 = .ok (.putfield 13, 3) := do_b5 DL_compose_10
theorem dL_compose_13 : decode cL_compose 13 = .ok (.goto 7, 3) := do_a7 DL_compose_13 (by decide +kernel)
theorem dL_compose_16 : decode cL_compose 16 = .ok (.astore 5, 2) := do_3a DL_compose_16
theorem dL_compose_18 : decode cL_compose 18 = .ok (.iconst 1, 1) := do_04 DL_compose_18
theorem dL_compose_19 : decode cL_compose 19 = .ok (.ireturn, 1) := do_ac DL_compose_19
theorem dL_compose_20 : decode cL_compose 20 = .ok (.iconst 0, 1) := do_03 DL_compose_20
theorem dL_compose_21 : decode cL_compose 21 = .ok (.ireturn, 1) := do_ac DL_compose_21
def TL_power_24 : List UInt8 := []
def TL_power_23 : List UInt8 := 172 :: TL_power_24
def TL_power_22 : List UInt8 := 3 :: TL_power_23
def TL_power_21 : List UInt8 := 172 :: TL_power_22
def TL_power_20 : List UInt8 := 5 :: TL_power_21
def TL_power_18 : List UInt8 := 58 :: 4 :: TL_power_20
def TL_power_17 : List UInt8 := 172 :: TL_power_18
def TL_power_16 : List UInt8 := 4 :: TL_power_17
def TL_power_14 : List UInt8 := 58 :: 4 :: TL_power_16
def TL_power_11 : List UInt8 := 167 :: 0 :: 11 :: TL_power_14
def TL_power_8 : List UInt8 := 181 :: 0 :: 13 :: TL_power_11
def TL_power_7 : List UInt8 := 133 :: TL_power_8
def TL_power_4 : List UInt8 := 182 :: 0 :: 103 :: TL_power_7
def TL_power_3 : List UInt8 := 28 :: TL_power_4
def TL_power_2 : List UInt8 := 27 :: TL_power_3
def TL_power_1 : List UInt8 := 42 :: TL_power_2
def TL_power_0 : List UInt8 := 45 :: TL_power_1
theorem DL_power_0 : cL_power.data.toList.drop 0 = TL_power_0 := by decide +kernel
theorem DL_power_1 : cL_power.data.toList.drop 1 = TL_power_1 := dr1 DL_power_0
theorem DL_power_2 : cL_power.data.toList.drop 2 = TL_power_2 := dr1 DL_power_1
theorem DL_power_3 : cL_power.data.toList.drop 3 = TL_power_3 := dr1 DL_power_2
theorem DL_power_4 : cL_power.data.toList.drop 4 = TL_power_4 := dr1 DL_power_3
theorem DL_power_7 : cL_power.data.toList.drop 7 = TL_power_7 := dr3 DL_power_4
theorem DL_power_8 : cL_power.data.toList.drop 8 = TL_power_8 := dr1 DL_power_7
theorem DL_power_11 : cL_power.data.toList.drop 11 = TL_power_11 := dr3 DL_power_8
theorem DL_power_14 : cL_power.data.toList.drop 14 = TL_power_14 := dr3 DL_power_11
theorem DL_power_16 : cL_power.data.toList.drop 16 = TL_power_16 := dr2 DL_power_14
theorem DL_power_17 : cL_power.data.toList.drop 17 = TL_power_17 := dr1 DL_power_16
theorem DL_power_18 : cL_power.data.toList.drop 18 = TL_power_18 := dr1 DL_power_17
theorem DL_power_20 : cL_power.data.toList.drop 20 = TL_power_20 := dr2 DL_power_18
theorem DL_power_21 : cL_power.data.toList.drop 21 = TL_power_21 := dr1 DL_power_20
theorem DL_power_22 : cL_power.data.toList.drop 22 = TL_power_22 := dr1 DL_power_21
theorem DL_power_23 : cL_power.data.toList.drop 23 = TL_power_23 := dr1 DL_power_22
theorem dL_power_0 : decode cL_power 0 = .ok (.aload_n 3, 1) := do_2d DL_power_0
theorem dL_power_1 : decode cL_power 1 = .ok (.aload_n 0, 1) := do_2a DL_power_1
theorem dL_power_2 : decode cL_power 2 = .ok (.iload_n 1, 1) := do_1b DL_power_2
theorem dL_power_3 : decode cL_power 3 = .ok (.iload_n 2, 1) := do_1c DL_power_3
theorem dL_power_4 : decode cL_power 4 = .ok (.invokevirtual 103, 3) := do_b6 DL_power_4
theorem dL_power_7 : decode cL_power 7 = .ok (.i2l, 1) := do_85 DL_power_7
theorem dL_power_8 : decode cL_power 8 = .ok (.putfield 13, 3) := do_b5 DL_power_8
theorem dL_power_11 : decode cL_power 11 = .ok (.goto 11, 3) := do_a7 DL_power_11 (by decide +kernel)
theorem dL_power_14 : decode cL_power 14 = .ok (.astore 4, 2) := do_3a DL_power_14
theorem dL_power_16 : decode cL_power 16 = .ok (.iconst 1, 1) := do_04 DL_power_16
theorem dL_power_17 : decode cL_power 17 = .ok (.ireturn, 1) := do_ac DL_power_17
theorem dL_power_18 : decode cL_power 18 = .ok (.astore 4, 2) := do_3a DL_power_18
theorem dL_power_20 : decode cL_power 20 = .ok (.iconst 2, 1) := do_05 DL_power_20
theorem dL_power_21 : decode cL_power 21 = .ok (.ireturn, 1) := do_ac DL_power_21
theorem dL_power_22 : decode cL_power 22 = .ok (.iconst 0, 1) := do_03 DL_power_22
theorem dL_power_23 : decode cL_power 23 = .ok (.ireturn, 1) := do_ac DL_power_23
def TL_mirror_20 : List UInt8 := []
def TL_mirror_19 : List UInt8 := 172 :: TL_mirror_20
def TL_mirror_18 : List UInt8 := 3 :: TL_mirror_19
def TL_mirror_17 : List UInt8 := 172 :: TL_mirror_18
def TL_mirror_16 : List UInt8 := 4 :: TL_mirror_17
def TL_mirror_14 : List UInt8 := 58 :: 4 :: TL_mirror_16
def TL_mirror_11 : List UInt8 := 167 :: 0 :: 7 :: TL_mirror_14
def TL_mirror_8 : List UInt8 := 181 :: 0 :: 13 :: TL_mirror_11
def TL_mirror_7 : List UInt8 := 133 :: TL_mirror_8
def TL_mirror_4 : List UInt8 := 182 :: 0 :: 106 :: TL_mirror_7
def TL_mirror_3 : List UInt8 := 28 :: TL_mirror_4
def TL_mirror_2 : List UInt8 := 27 :: TL_mirror_3
def TL_mirror_1 : List UInt8 := 42 :: TL_mirror_2
def TL_mirror_0 : List UInt8 := 45 :: TL_mirror_1
theorem DL_mirror_0 : cL_mirror.data.toList.drop 0 = TL_mirror_0 := by decide +kernel
theorem DL_mirror_1 : cL_mirror.data.toList.drop 1 = TL_mirror_1 := dr1 DL_mirror_0
theorem DL_mirror_2 : cL_mirror.data.toList.drop 2 = TL_mirror_2 := dr1 DL_mirror_1
theorem DL_mirror_3 : cL_mirror.data.toList.drop 3 = TL_mirror_3 := dr1 DL_mirror_2
theorem DL_mirror_4 : cL_mirror.data.toList.drop 4 = TL_mirror_4 := dr1 DL_mirror_3
theorem DL_mirror_7 : cL_mirror.data.toList.drop 7 = TL_mirror_7 := dr3 DL_mirror_4
theorem DL_mirror_8 : cL_mirror.data.toList.drop 8 = TL_mirror_8 := dr1 DL_mirror_7
theorem DL_mirror_11 : cL_mirror.data.toList.drop 11 = TL_mirror_11 := dr3 DL_mirror_8
theorem DL_mirror_14 : cL_mirror.data.toList.drop 14 = TL_mirror_14 := dr3 DL_mirror_11
theorem DL_mirror_16 : cL_mirror.data.toList.drop 16 = TL_mirror_16 := dr2 DL_mirror_14
theorem DL_mirror_17 : cL_mirror.data.toList.drop 17 = TL_mirror_17 := dr1 DL_mirror_16
theorem DL_mirror_18 : cL_mirror.data.toList.drop 18 = TL_mirror_18 := dr1 DL_mirror_17
theorem DL_mirror_19 : cL_mirror.data.toList.drop 19 = TL_mirror_19 := dr1 DL_mirror_18
theorem dL_mirror_0 : decode cL_mirror 0 = .ok (.aload_n 3, 1) := do_2d DL_mirror_0
theorem dL_mirror_1 : decode cL_mirror 1 = .ok (.aload_n 0, 1) := do_2a DL_mirror_1
theorem dL_mirror_2 : decode cL_mirror 2 = .ok (.iload_n 1, 1) := do_1b DL_mirror_2
theorem dL_mirror_3 : decode cL_mirror 3 = .ok (.iload_n 2, 1) := do_1c DL_mirror_3
theorem dL_mirror_4 : decode cL_mirror 4 = .ok (.invokevirtual 106, 3) := do_b6 DL_mirror_4
theorem dL_mirror_7 : decode cL_mirror 7 = .ok (.i2l, 1) := do_85 DL_mirror_7
theorem dL_mirror_8 : decode cL_mirror 8 = .ok (.putfield 13, 3) := do_b5 DL_mirror_8
theorem dL_mirror_11 : decode cL_mirror 11 = .ok (.goto 7, 3) := do_a7 DL_mirror_11 (by decide +kernel)
theorem dL_mirror_14 : decode cL_mirror 14 = .ok (.astore 4, 2) := do_3a DL_mirror_14
theorem dL_mirror_16 : decode cL_mirror 16 = .ok (.iconst 1, 1) := do_04 DL_mirror_16
theorem dL_mirror_17 : decode cL_mirror 17 = .ok (.ireturn, 1) := do_ac DL_mirror_17
theorem dL_mirror_18 : decode cL_mirror 18 = .ok (.iconst 0, 1) := do_03 DL_mirror_18
theorem dL_mirror_19 : decode cL_mirror 19 = .ok (.ireturn, 1) := do_ac DL_mirror_19
def TL_divideBy_24 : List UInt8 := []
def TL_divideBy_23 : List UInt8 := 172 :: TL_divideBy_24
def TL_divideBy_22 : List UInt8 := 3 :: TL_divideBy_23
def TL_divideBy_21 : List UInt8 := 172 :: TL_divideBy_22
def TL_divideBy_20 : List UInt8 := 5 :: TL_divideBy_21
def TL_divideBy_18 : List UInt8 := 58 :: 4 :: TL_divideBy_20
def TL_divideBy_17 : List UInt8 := 172 :: TL_divideBy_18
def TL_divideBy_16 : List UInt8 := 4 :: TL_divideBy_17
def TL_divideBy_14 : List UInt8 := 58 :: 4 :: TL_divideBy_16
def TL_divideBy_11 : List UInt8 := 167 :: 0 :: 11 :: TL_divideBy_14
def TL_divideBy_8 : List UInt8 := 181 :: 0 :: 13 :: TL_divideBy_11
def TL_divideBy_7 : List UInt8 := 133 :: TL_divideBy_8
def TL_divideBy_4 : List UInt8 := 182 :: 0 :: 110 :: TL_divideBy_7
def TL_divideBy_3 : List UInt8 := 28 :: TL_divideBy_4
def TL_divideBy_2 : List UInt8 := 27 :: TL_divideBy_3
def TL_divideBy_1 : List UInt8 := 42 :: TL_divideBy_2
def TL_divideBy_0 : List UInt8 := 45 :: TL_divideBy_1
theorem DL_divideBy_0 : cL_divideBy.data.toList.drop 0 = TL_divideBy_0 := by decide +kernel
theorem DL_divideBy_1 : cL_divideBy.data.toList.drop 1 = TL_divideBy_1 := dr1 DL_divideBy_0
theorem DL_divideBy_2 : cL_divideBy.data.toList.drop 2 = TL_divideBy_2 := dr1 DL_divideBy_1
theorem DL_divideBy_3 : cL_divideBy.data.toList.drop 3 = TL_divideBy_3 := dr1 DL_divideBy_2
theorem DL_divideBy_4 : cL_divideBy.data.toList.drop 4 = TL_divideBy_4 := dr1 DL_divideBy_3
theorem DL_divideBy_7 : cL_divideBy.data.toList.drop 7 = TL_divideBy_7 := dr3 DL_divideBy_4
theorem DL_divideBy_8 : cL_divideBy.data.toList.drop 8 = TL_divideBy_8 := dr1 DL_divideBy_7
theorem DL_divideBy_11 : cL_divideBy.data.toList.drop 11 = TL_divideBy_11 := dr3 DL_divideBy_8
theorem DL_divideBy_14 : cL_divideBy.data.toList.drop 14 = TL_divideBy_14 := dr3 DL_divideBy_11
theorem DL_divideBy_16 : cL_divideBy.data.toList.drop 16 = TL_divideBy_16 := dr2 DL_divideBy_14
theorem DL_divideBy_17 : cL_divideBy.data.toList.drop 17 = TL_divideBy_17 := dr1 DL_divideBy_16
theorem DL_divideBy_18 : cL_divideBy.data.toList.drop 18 = TL_divideBy_18 := dr1 DL_divideBy_17
theorem DL_divideBy_20 : cL_divideBy.data.toList.drop 20 = TL_divideBy_20 := dr2 DL_divideBy_18
theorem DL_divideBy_21 : cL_divideBy.data.toList.drop 21 = TL_divideBy_21 := dr1 DL_divideBy_20
theorem DL_divideBy_22 : cL_divideBy.data.toList.drop 22 = TL_divideBy_22 := dr1 DL_divideBy_21
theorem DL_divideBy_23 : cL_divideBy.data.toList.drop 23 = TL_divideBy_23 := dr1 DL_divideBy_22
theorem dL_divideBy_0 : decode cL_divideBy 0 = .ok (.aload_n 3, 1) := do_2d DL_divideBy_0
theorem dL_divideBy_1 : decode cL_divideBy 1 = .ok (.aload_n 0, 1) := do_2a DL_divideBy_1
theorem dL_divideBy_2 : decode cL_divideBy 2 = .ok (.iload_n 1, 1) := do_1b DL_divideBy_2
theorem dL_divideBy_3 : decode cL_divideBy 3 = .ok (.iload_n 2, 1) := do_1c DL_divideBy_3
theorem dL_divideBy_4 : decode cL_divideBy 4 = .ok (.invokevirtual 110, 3) := do_b6 DL_divideBy_4
theorem dL_divideBy_7 : decode cL_divideBy 7 = .ok (.i2l, 1) := do_85 DL_divideBy_7
theorem dL_divideBy_8 : decode cL_divideBy 8 = .ok (.putfield 13, 3) := do_b5 DL_divideBy_8
theorem dL_divideBy_11 : decode cL_divideBy 11 = .ok (.goto 11, 3) := do_a7 DL_divideBy_11 (by decide +kernel)
theorem dL_divideBy_14 : decode cL_divideBy 14 = .ok (.astore 4, 2) := do_3a DL_divideBy_14
theorem dL_divideBy_16 : decode cL_divideBy 16 = .ok (.iconst 1, 1) := do_04 DL_divideBy_16
theorem dL_divideBy_17 : decode cL_divideBy 17 = .ok (.ireturn, 1) := do_ac DL_divideBy_17
theorem dL_divideBy_18 : decode cL_divideBy 18 = .ok (.astore 4, 2) := do_3a DL_divideBy_18
theorem dL_divideBy_20 : decode cL_divideBy 20 = .ok (.iconst 2, 1) := do_05 DL_divideBy_20
theorem dL_divideBy_21 : decode cL_divideBy 21 = .ok (.ireturn, 1) := do_ac DL_divideBy_21
theorem dL_divideBy_22 : decode cL_divideBy 22 = .ok (.iconst 0, 1) := do_03 DL_divideBy_22
theorem dL_divideBy_23 : decode cL_divideBy 23 = .ok (.ireturn, 1) := do_ac DL_divideBy_23
def TL_pairCopy_20 : List UInt8 := []
def TL_pairCopy_19 : List UInt8 := 172 :: TL_pairCopy_20
def TL_pairCopy_18 : List UInt8 := 3 :: TL_pairCopy_19
def TL_pairCopy_17 : List UInt8 := 172 :: TL_pairCopy_18
def TL_pairCopy_16 : List UInt8 := 4 :: TL_pairCopy_17
def TL_pairCopy_14 : List UInt8 := 58 :: 4 :: TL_pairCopy_16
def TL_pairCopy_11 : List UInt8 := 167 :: 0 :: 7 :: TL_pairCopy_14
def TL_pairCopy_8 : List UInt8 := 181 :: 0 :: 13 :: TL_pairCopy_11
def TL_pairCopy_7 : List UInt8 := 133 :: TL_pairCopy_8
def TL_pairCopy_4 : List UInt8 := 182 :: 0 :: 113 :: TL_pairCopy_7
def TL_pairCopy_3 : List UInt8 := 28 :: TL_pairCopy_4
def TL_pairCopy_2 : List UInt8 := 27 :: TL_pairCopy_3
def TL_pairCopy_1 : List UInt8 := 42 :: TL_pairCopy_2
def TL_pairCopy_0 : List UInt8 := 45 :: TL_pairCopy_1
theorem DL_pairCopy_0 : cL_pairCopy.data.toList.drop 0 = TL_pairCopy_0 := by decide +kernel
theorem DL_pairCopy_1 : cL_pairCopy.data.toList.drop 1 = TL_pairCopy_1 := dr1 DL_pairCopy_0
theorem DL_pairCopy_2 : cL_pairCopy.data.toList.drop 2 = TL_pairCopy_2 := dr1 DL_pairCopy_1
theorem DL_pairCopy_3 : cL_pairCopy.data.toList.drop 3 = TL_pairCopy_3 := dr1 DL_pairCopy_2
theorem DL_pairCopy_4 : cL_pairCopy.data.toList.drop 4 = TL_pairCopy_4 := dr1 DL_pairCopy_3
theorem DL_pairCopy_7 : cL_pairCopy.data.toList.drop 7 = TL_pairCopy_7 := dr3 DL_pairCopy_4
theorem DL_pairCopy_8 : cL_pairCopy.data.toList.drop 8 = TL_pairCopy_8 := dr1 DL_pairCopy_7
theorem DL_pairCopy_11 : cL_pairCopy.data.toList.drop 11 = TL_pairCopy_11 := dr3 DL_pairCopy_8
theorem DL_pairCopy_14 : cL_pairCopy.data.toList.drop 14 = TL_pairCopy_14 := dr3 DL_pairCopy_11
theorem DL_pairCopy_16 : cL_pairCopy.data.toList.drop 16 = TL_pairCopy_16 := dr2 DL_pairCopy_14
theorem DL_pairCopy_17 : cL_pairCopy.data.toList.drop 17 = TL_pairCopy_17 := dr1 DL_pairCopy_16
theorem DL_pairCopy_18 : cL_pairCopy.data.toList.drop 18 = TL_pairCopy_18 := dr1 DL_pairCopy_17
theorem DL_pairCopy_19 : cL_pairCopy.data.toList.drop 19 = TL_pairCopy_19 := dr1 DL_pairCopy_18
theorem dL_pairCopy_0 : decode cL_pairCopy 0 = .ok (.aload_n 3, 1) := do_2d DL_pairCopy_0
theorem dL_pairCopy_1 : decode cL_pairCopy 1 = .ok (.aload_n 0, 1) := do_2a DL_pairCopy_1
theorem dL_pairCopy_2 : decode cL_pairCopy 2 = .ok (.iload_n 1, 1) := do_1b DL_pairCopy_2
theorem dL_pairCopy_3 : decode cL_pairCopy 3 = .ok (.iload_n 2, 1) := do_1c DL_pairCopy_3
theorem dL_pairCopy_4 : decode cL_pairCopy 4 = .ok (.invokevirtual 113, 3) := do_b6 DL_pairCopy_4
theorem dL_pairCopy_7 : decode cL_pairCopy 7 = .ok (.i2l, 1) := do_85 DL_pairCopy_7
theorem dL_pairCopy_8 : decode cL_pairCopy 8 = .ok (.putfield 13, 3) := do_b5 DL_pairCopy_8
theorem dL_pairCopy_11 : decode cL_pairCopy 11 = .ok (.goto 7, 3) := do_a7 DL_pairCopy_11 (by decide +kernel)
theorem dL_pairCopy_14 : decode cL_pairCopy 14 = .ok (.astore 4, 2) := do_3a DL_pairCopy_14
theorem dL_pairCopy_16 : decode cL_pairCopy 16 = .ok (.iconst 1, 1) := do_04 DL_pairCopy_16
theorem dL_pairCopy_17 : decode cL_pairCopy 17 = .ok (.ireturn, 1) := do_ac DL_pairCopy_17
theorem dL_pairCopy_18 : decode cL_pairCopy 18 = .ok (.iconst 0, 1) := do_03 DL_pairCopy_18
theorem dL_pairCopy_19 : decode cL_pairCopy 19 = .ok (.ireturn, 1) := do_ac DL_pairCopy_19
def TL_pairBase_18 : List UInt8 := []
def TL_pairBase_17 : List UInt8 := 172 :: TL_pairBase_18
def TL_pairBase_16 : List UInt8 := 3 :: TL_pairBase_17
def TL_pairBase_15 : List UInt8 := 172 :: TL_pairBase_16
def TL_pairBase_14 : List UInt8 := 4 :: TL_pairBase_15
def TL_pairBase_13 : List UInt8 := 78 :: TL_pairBase_14
def TL_pairBase_10 : List UInt8 := 167 :: 0 :: 6 :: TL_pairBase_13
def TL_pairBase_7 : List UInt8 := 181 :: 0 :: 13 :: TL_pairBase_10
def TL_pairBase_6 : List UInt8 := 133 :: TL_pairBase_7
def TL_pairBase_3 : List UInt8 := 182 :: 0 :: 116 :: TL_pairBase_6
def TL_pairBase_2 : List UInt8 := 27 :: TL_pairBase_3
def TL_pairBase_1 : List UInt8 := 42 :: TL_pairBase_2
def TL_pairBase_0 : List UInt8 := 44 :: TL_pairBase_1
theorem DL_pairBase_0 : cL_pairBase.data.toList.drop 0 = TL_pairBase_0 := by decide +kernel
theorem DL_pairBase_1 : cL_pairBase.data.toList.drop 1 = TL_pairBase_1 := dr1 DL_pairBase_0
theorem DL_pairBase_2 : cL_pairBase.data.toList.drop 2 = TL_pairBase_2 := dr1 DL_pairBase_1
theorem DL_pairBase_3 : cL_pairBase.data.toList.drop 3 = TL_pairBase_3 := dr1 DL_pairBase_2
theorem DL_pairBase_6 : cL_pairBase.data.toList.drop 6 = TL_pairBase_6 := dr3 DL_pairBase_3
theorem DL_pairBase_7 : cL_pairBase.data.toList.drop 7 = TL_pairBase_7 := dr1 DL_pairBase_6
theorem DL_pairBase_10 : cL_pairBase.data.toList.drop 10 = TL_pairBase_10 := dr3 DL_pairBase_7
theorem DL_pairBase_13 : cL_pairBase.data.toList.drop 13 = TL_pairBase_13 := dr3 DL_pairBase_10
theorem DL_pairBase_14 : cL_pairBase.data.toList.drop 14 = TL_pairBase_14 := dr1 DL_pairBase_13
theorem DL_pairBase_15 : cL_pairBase.data.toList.drop 15 = TL_pairBase_15 := dr1 DL_pairBase_14
theorem DL_pairBase_16 : cL_pairBase.data.toList.drop 16 = TL_pairBase_16 := dr1 DL_pairBase_15
theorem DL_pairBase_17 : cL_pairBase.data.toList.drop 17 = TL_pairBase_17 := dr1 DL_pairBase_16
theorem dL_pairBase_0 : decode cL_pairBase 0 = .ok (.aload_n 2, 1) := do_2c DL_pairBase_0
theorem dL_pairBase_1 : decode cL_pairBase 1 = .ok (.aload_n 0, 1) := do_2a DL_pairBase_1
theorem dL_pairBase_2 : decode cL_pairBase 2 = .ok (.iload_n 1, 1) := do_1b DL_pairBase_2
theorem dL_pairBase_3 : decode cL_pairBase 3 = .ok (.invokevirtual 116, 3) := do_b6 DL_pairBase_3
theorem dL_pairBase_6 : decode cL_pairBase 6 = .ok (.i2l, 1) := do_85 DL_pairBase_6
theorem dL_pairBase_7 : decode cL_pairBase 7 = .ok (.putfield 13, 3) := do_b5 DL_pairBase_7
theorem dL_pairBase_10 : decode cL_pairBase 10 = .ok (.goto 6, 3) := do_a7 DL_pairBase_10 (by decide +kernel)
theorem dL_pairBase_13 : decode cL_pairBase 13 = .ok (.astore_n 3, 1) := do_4e DL_pairBase_13
theorem dL_pairBase_14 : decode cL_pairBase 14 = .ok (.iconst 1, 1) := do_04 DL_pairBase_14
theorem dL_pairBase_15 : decode cL_pairBase 15 = .ok (.ireturn, 1) := do_ac DL_pairBase_15
theorem dL_pairBase_16 : decode cL_pairBase 16 = .ok (.iconst 0, 1) := do_03 DL_pairBase_16
theorem dL_pairBase_17 : decode cL_pairBase 17 = .ok (.ireturn, 1) := do_ac DL_pairBase_17
def TL_pairText_19 : List UInt8 := []
def TL_pairText_18 : List UInt8 := 172 :: TL_pairText_19
def TL_pairText_17 : List UInt8 := 3 :: TL_pairText_18
def TL_pairText_16 : List UInt8 := 172 :: TL_pairText_17
def TL_pairText_15 : List UInt8 := 4 :: TL_pairText_16
def TL_pairText_13 : List UInt8 := 58 :: 4 :: TL_pairText_15
def TL_pairText_10 : List UInt8 := 167 :: 0 :: 7 :: TL_pairText_13
def TL_pairText_7 : List UInt8 := 181 :: 0 :: 40 :: TL_pairText_10
def TL_pairText_4 : List UInt8 := 182 :: 0 :: 119 :: TL_pairText_7
def TL_pairText_3 : List UInt8 := 28 :: TL_pairText_4
def TL_pairText_2 : List UInt8 := 27 :: TL_pairText_3
def TL_pairText_1 : List UInt8 := 42 :: TL_pairText_2
def TL_pairText_0 : List UInt8 := 45 :: TL_pairText_1
theorem DL_pairText_0 : cL_pairText.data.toList.drop 0 = TL_pairText_0 := by decide +kernel
theorem DL_pairText_1 : cL_pairText.data.toList.drop 1 = TL_pairText_1 := dr1 DL_pairText_0
theorem DL_pairText_2 : cL_pairText.data.toList.drop 2 = TL_pairText_2 := dr1 DL_pairText_1
theorem DL_pairText_3 : cL_pairText.data.toList.drop 3 = TL_pairText_3 := dr1 DL_pairText_2
theorem DL_pairText_4 : cL_pairText.data.toList.drop 4 = TL_pairText_4 := dr1 DL_pairText_3
theorem DL_pairText_7 : cL_pairText.data.toList.drop 7 = TL_pairText_7 := dr3 DL_pairText_4
theorem DL_pairText_10 : cL_pairText.data.toList.drop 10 = TL_pairText_10 := dr3 DL_pairText_7
theorem DL_pairText_13 : cL_pairText.data.toList.drop 13 = TL_pairText_13 := dr3 DL_pairText_10
theorem DL_pairText_15 : cL_pairText.data.toList.drop 15 = TL_pairText_15 := dr2 DL_pairText_13
theorem DL_pairText_16 : cL_pairText.data.toList.drop 16 = TL_pairText_16 := dr1 DL_pairText_15
theorem DL_pairText_17 : cL_pairText.data.toList.drop 17 = TL_pairText_17 := dr1 DL_pairText_16
theorem DL_pairText_18 : cL_pairText.data.toList.drop 18 = TL_pairText_18 := dr1 DL_pairText_17
theorem dL_pairText_0 : decode cL_pairText 0 = .ok (.aload_n 3, 1) := do_2d DL_pairText_0
theorem dL_pairText_1 : decode cL_pairText 1 = .ok (.aload_n 0, 1) := do_2a DL_pairText_1
theorem dL_pairText_2 : decode cL_pairText 2 = .ok (.iload_n 1, 1) := do_1b DL_pairText_2
theorem dL_pairText_3 : decode cL_pairText 3 = .ok (.iload_n 2, 1) := do_1c DL_pairText_3
theorem dL_pairText_4 : decode cL_pairText 4 = .ok (.invokevirtual 119, 3) := do_b6 DL_pairText_4
theorem dL_pairText_7 : decode cL_pairText 7 = .ok (.putfield 40, 3) := do_b5 DL_pairText_7
theorem dL_pairText_10 : decode cL_pairText 10 = .ok (.goto 7, 3) := do_a7 DL_pairText_10 (by decide +kernel)
theorem dL_pairText_13 : decode cL_pairText 13 = .ok (.astore 4, 2) := do_3a DL_pairText_13
theorem dL_pairText_15 : decode cL_pairText 15 = .ok (.iconst 1, 1) := do_04 DL_pairText_15
theorem dL_pairText_16 : decode cL_pairText 16 = .ok (.ireturn, 1) := do_ac DL_pairText_16
theorem dL_pairText_17 : decode cL_pairText 17 = .ok (.iconst 0, 1) := do_03 DL_pairText_17
theorem dL_pairText_18 : decode cL_pairText 18 = .ok (.ireturn, 1) := do_ac DL_pairText_18
def TL_pairNorm_17 : List UInt8 := []
def TL_pairNorm_16 : List UInt8 := 172 :: TL_pairNorm_17
def TL_pairNorm_15 : List UInt8 := 3 :: TL_pairNorm_16
def TL_pairNorm_14 : List UInt8 := 172 :: TL_pairNorm_15
def TL_pairNorm_13 : List UInt8 := 4 :: TL_pairNorm_14
def TL_pairNorm_12 : List UInt8 := 78 :: TL_pairNorm_13
def TL_pairNorm_9 : List UInt8 := 167 :: 0 :: 6 :: TL_pairNorm_12
def TL_pairNorm_6 : List UInt8 := 181 :: 0 :: 40 :: TL_pairNorm_9
def TL_pairNorm_3 : List UInt8 := 182 :: 0 :: 122 :: TL_pairNorm_6
def TL_pairNorm_2 : List UInt8 := 27 :: TL_pairNorm_3
def TL_pairNorm_1 : List UInt8 := 42 :: TL_pairNorm_2
def TL_pairNorm_0 : List UInt8 := 44 :: TL_pairNorm_1
theorem DL_pairNorm_0 : cL_pairNorm.data.toList.drop 0 = TL_pairNorm_0 := by decide +kernel
theorem DL_pairNorm_1 : cL_pairNorm.data.toList.drop 1 = TL_pairNorm_1 := dr1 DL_pairNorm_0
theorem DL_pairNorm_2 : cL_pairNorm.data.toList.drop 2 = TL_pairNorm_2 := dr1 DL_pairNorm_1
theorem DL_pairNorm_3 : cL_pairNorm.data.toList.drop 3 = TL_pairNorm_3 := dr1 DL_pairNorm_2
theorem DL_pairNorm_6 : cL_pairNorm.data.toList.drop 6 = TL_pairNorm_6 := dr3 DL_pairNorm_3
theorem DL_pairNorm_9 : cL_pairNorm.data.toList.drop 9 = TL_pairNorm_9 := dr3 DL_pairNorm_6
theorem DL_pairNorm_12 : cL_pairNorm.data.toList.drop 12 = TL_pairNorm_12 := dr3 DL_pairNorm_9
theorem DL_pairNorm_13 : cL_pairNorm.data.toList.drop 13 = TL_pairNorm_13 := dr1 DL_pairNorm_12
theorem DL_pairNorm_14 : cL_pairNorm.data.toList.drop 14 = TL_pairNorm_14 := dr1 DL_pairNorm_13
theorem DL_pairNorm_15 : cL_pairNorm.data.toList.drop 15 = TL_pairNorm_15 := dr1 DL_pairNorm_14
theorem DL_pairNorm_16 : cL_pairNorm.data.toList.drop 16 = TL_pairNorm_16 := dr1 DL_pairNorm_15
theorem dL_pairNorm_0 : decode cL_pairNorm 0 = .ok (.aload_n 2, 1) := do_2c DL_pairNorm_0
theorem dL_pairNorm_1 : decode cL_pairNorm 1 = .ok (.aload_n 0, 1) := do_2a DL_pairNorm_1
theorem dL_pairNorm_2 : decode cL_pairNorm 2 = .ok (.iload_n 1, 1) := do_1b DL_pairNorm_2
theorem dL_pairNorm_3 : decode cL_pairNorm 3 = .ok (.invokevirtual 122, 3) := do_b6 DL_pairNorm_3
theorem dL_pairNorm_6 : decode cL_pairNorm 6 = .ok (.putfield 40, 3) := do_b5 DL_pairNorm_6
theorem dL_pairNorm_9 : decode cL_pairNorm 9 = .ok (.goto 6, 3) := do_a7 DL_pairNorm_9 (by decide +kernel)
theorem dL_pairNorm_12 : decode cL_pairNorm 12 = .ok (.astore_n 3, 1) := do_4e DL_pairNorm_12
theorem dL_pairNorm_13 : decode cL_pairNorm 13 = .ok (.iconst 1, 1) := do_04 DL_pairNorm_13
theorem dL_pairNorm_14 : decode cL_pairNorm 14 = .ok (.ireturn, 1) := do_ac DL_pairNorm_14
theorem dL_pairNorm_15 : decode cL_pairNorm 15 = .ok (.iconst 0, 1) := do_03 DL_pairNorm_15
theorem dL_pairNorm_16 : decode cL_pairNorm 16 = .ok (.ireturn, 1) := do_ac DL_pairNorm_16
def TL_pairBits_26 : List UInt8 := []
def TL_pairBits_25 : List UInt8 := 172 :: TL_pairBits_26
def TL_pairBits_24 : List UInt8 := 3 :: TL_pairBits_25
def TL_pairBits_23 : List UInt8 := 172 :: TL_pairBits_24
def TL_pairBits_22 : List UInt8 := 5 :: TL_pairBits_23
def TL_pairBits_20 : List UInt8 := 58 :: 5 :: TL_pairBits_22
def TL_pairBits_19 : List UInt8 := 172 :: TL_pairBits_20
def TL_pairBits_18 : List UInt8 := 4 :: TL_pairBits_19
def TL_pairBits_16 : List UInt8 := 58 :: 5 :: TL_pairBits_18
def TL_pairBits_13 : List UInt8 := 167 :: 0 :: 11 :: TL_pairBits_16
def TL_pairBits_10 : List UInt8 := 181 :: 0 :: 13 :: TL_pairBits_13
def TL_pairBits_9 : List UInt8 := 133 :: TL_pairBits_10
def TL_pairBits_6 : List UInt8 := 182 :: 0 :: 125 :: TL_pairBits_9
def TL_pairBits_5 : List UInt8 := 29 :: TL_pairBits_6
def TL_pairBits_4 : List UInt8 := 28 :: TL_pairBits_5
def TL_pairBits_3 : List UInt8 := 27 :: TL_pairBits_4
def TL_pairBits_2 : List UInt8 := 42 :: TL_pairBits_3
def TL_pairBits_0 : List UInt8 := 25 :: 4 :: TL_pairBits_2
theorem DL_pairBits_0 : cL_pairBits.data.toList.drop 0 = TL_pairBits_0 := by decide +kernel
theorem DL_pairBits_2 : cL_pairBits.data.toList.drop 2 = TL_pairBits_2 := dr2 DL_pairBits_0
theorem DL_pairBits_3 : cL_pairBits.data.toList.drop 3 = TL_pairBits_3 := dr1 DL_pairBits_2
theorem DL_pairBits_4 : cL_pairBits.data.toList.drop 4 = TL_pairBits_4 := dr1 DL_pairBits_3
theorem DL_pairBits_5 : cL_pairBits.data.toList.drop 5 = TL_pairBits_5 := dr1 DL_pairBits_4
theorem DL_pairBits_6 : cL_pairBits.data.toList.drop 6 = TL_pairBits_6 := dr1 DL_pairBits_5
theorem DL_pairBits_9 : cL_pairBits.data.toList.drop 9 = TL_pairBits_9 := dr3 DL_pairBits_6
theorem DL_pairBits_10 : cL_pairBits.data.toList.drop 10 = TL_pairBits_10 := dr1 DL_pairBits_9
theorem DL_pairBits_13 : cL_pairBits.data.toList.drop 13 = TL_pairBits_13 := dr3 DL_pairBits_10
theorem DL_pairBits_16 : cL_pairBits.data.toList.drop 16 = TL_pairBits_16 := dr3 DL_pairBits_13
theorem DL_pairBits_18 : cL_pairBits.data.toList.drop 18 = TL_pairBits_18 := dr2 DL_pairBits_16
theorem DL_pairBits_19 : cL_pairBits.data.toList.drop 19 = TL_pairBits_19 := dr1 DL_pairBits_18
theorem DL_pairBits_20 : cL_pairBits.data.toList.drop 20 = TL_pairBits_20 := dr1 DL_pairBits_19
theorem DL_pairBits_22 : cL_pairBits.data.toList.drop 22 = TL_pairBits_22 := dr2 DL_pairBits_20
theorem DL_pairBits_23 : cL_pairBits.data.toList.drop 23 = TL_pairBits_23 := dr1 DL_pairBits_22
theorem DL_pairBits_24 : cL_pairBits.data.toList.drop 24 = TL_pairBits_24 := dr1 DL_pairBits_23
theorem DL_pairBits_25 : cL_pairBits.data.toList.drop 25 = TL_pairBits_25 := dr1 DL_pairBits_24
theorem dL_pairBits_0 : decode cL_pairBits 0 = .ok (.aload 4, 2) := do_19 DL_pairBits_0
theorem dL_pairBits_2 : decode cL_pairBits 2 = .ok (.aload_n 0, 1) := do_2a DL_pairBits_2
theorem dL_pairBits_3 : decode cL_pairBits 3 = .ok (.iload_n 1, 1) := do_1b DL_pairBits_3
theorem dL_pairBits_4 : decode cL_pairBits 4 = .ok (.iload_n 2, 1) := do_1c DL_pairBits_4
theorem dL_pairBits_5 : decode cL_pairBits 5 = .ok (.iload_n 3, 1) := do_1d DL_pairBits_5
theorem dL_pairBits_6 : decode cL_pairBits 6 = .ok (.invokevirtual 125, 3) := do_b6 DL_pairBits_6
theorem dL_pairBits_9 : decode cL_pairBits 9 = .ok (.i2l, 1) := do_85 DL_pairBits_9
theorem dL_pairBits_10 : decode cL_pairBits 10 = .ok (.putfield 13, 3) := do_b5 DL_pairBits_10
theorem dL_pairBits_13 : decode cL_pairBits 13 = .ok (.goto 11, 3) := do_a7 DL_pairBits_13 (by decide +kernel)
theorem dL_pairBits_16 : decode cL_pairBits 16 = .ok (.astore 5, 2) := do_3a DL_pairBits_16
theorem dL_pairBits_18 : decode cL_pairBits 18 = .ok (.iconst 1, 1) := do_04 DL_pairBits_18
theorem dL_pairBits_19 : decode cL_pairBits 19 = .ok (.ireturn, 1) := do_ac DL_pairBits_19
theorem dL_pairBits_20 : decode cL_pairBits 20 = .ok (.astore 5, 2) := do_3a DL_pairBits_20
theorem dL_pairBits_22 : decode cL_pairBits 22 = .ok (.iconst 2, 1) := do_05 DL_pairBits_22
theorem dL_pairBits_23 : decode cL_pairBits 23 = .ok (.ireturn, 1) := do_ac DL_pairBits_23
theorem dL_pairBits_24 : decode cL_pairBits 24 = .ok (.iconst 0, 1) := do_03 DL_pairBits_24
theorem dL_pairBits_25 : decode cL_pairBits 25 = .ok (.ireturn, 1) := do_ac DL_pairBits_25
def TL_rank_18 : List UInt8 := []
def TL_rank_17 : List UInt8 := 172 :: TL_rank_18
def TL_rank_16 : List UInt8 := 3 :: TL_rank_17
def TL_rank_15 : List UInt8 := 172 :: TL_rank_16
def TL_rank_14 : List UInt8 := 4 :: TL_rank_15
def TL_rank_13 : List UInt8 := 78 :: TL_rank_14
def TL_rank_10 : List UInt8 := 167 :: 0 :: 6 :: TL_rank_13
def TL_rank_7 : List UInt8 := 181 :: 0 :: 13 :: TL_rank_10
def TL_rank_6 : List UInt8 := 133 :: TL_rank_7
def TL_rank_3 : List UInt8 := 182 :: 0 :: 128 :: TL_rank_6
def TL_rank_2 : List UInt8 := 27 :: TL_rank_3
def TL_rank_1 : List UInt8 := 42 :: TL_rank_2
def TL_rank_0 : List UInt8 := 44 :: TL_rank_1
theorem DL_rank_0 : cL_rank.data.toList.drop 0 = TL_rank_0 := by decide +kernel
theorem DL_rank_1 : cL_rank.data.toList.drop 1 = TL_rank_1 := dr1 DL_rank_0
theorem DL_rank_2 : cL_rank.data.toList.drop 2 = TL_rank_2 := dr1 DL_rank_1
theorem DL_rank_3 : cL_rank.data.toList.drop 3 = TL_rank_3 := dr1 DL_rank_2
theorem DL_rank_6 : cL_rank.data.toList.drop 6 = TL_rank_6 := dr3 DL_rank_3
theorem DL_rank_7 : cL_rank.data.toList.drop 7 = TL_rank_7 := dr1 DL_rank_6
theorem DL_rank_10 : cL_rank.data.toList.drop 10 = TL_rank_10 := dr3 DL_rank_7
theorem DL_rank_13 : cL_rank.data.toList.drop 13 = TL_rank_13 := dr3 DL_rank_10
theorem DL_rank_14 : cL_rank.data.toList.drop 14 = TL_rank_14 := dr1 DL_rank_13
theorem DL_rank_15 : cL_rank.data.toList.drop 15 = TL_rank_15 := dr1 DL_rank_14
theorem DL_rank_16 : cL_rank.data.toList.drop 16 = TL_rank_16 := dr1 DL_rank_15
theorem DL_rank_17 : cL_rank.data.toList.drop 17 = TL_rank_17 := dr1 DL_rank_16
theorem dL_rank_0 : decode cL_rank 0 = .ok (.aload_n 2, 1) := do_2c DL_rank_0
theorem dL_rank_1 : decode cL_rank 1 = .ok (.aload_n 0, 1) := do_2a DL_rank_1
theorem dL_rank_2 : decode cL_rank 2 = .ok (.iload_n 1, 1) := do_1b DL_rank_2
theorem dL_rank_3 : decode cL_rank 3 = .ok (.invokevirtual 128, 3) := do_b6 DL_rank_3
theorem dL_rank_6 : decode cL_rank 6 = .ok (.i2l, 1) := do_85 DL_rank_6
theorem dL_rank_7 : decode cL_rank 7 = .ok (.putfield 13, 3) := do_b5 DL_rank_7
theorem dL_rank_10 : decode cL_rank 10 = .ok (.goto 6, 3) := do_a7 DL_rank_10 (by decide +kernel)
theorem dL_rank_13 : decode cL_rank 13 = .ok (.astore_n 3, 1) := do_4e DL_rank_13
theorem dL_rank_14 : decode cL_rank 14 = .ok (.iconst 1, 1) := do_04 DL_rank_14
theorem dL_rank_15 : decode cL_rank 15 = .ok (.ireturn, 1) := do_ac DL_rank_15
theorem dL_rank_16 : decode cL_rank 16 = .ok (.iconst 0, 1) := do_03 DL_rank_16
theorem dL_rank_17 : decode cL_rank 17 = .ok (.ireturn, 1) := do_ac DL_rank_17
def TL_order_22 : List UInt8 := []
def TL_order_21 : List UInt8 := 172 :: TL_order_22
def TL_order_20 : List UInt8 := 3 :: TL_order_21
def TL_order_19 : List UInt8 := 172 :: TL_order_20
def TL_order_18 : List UInt8 := 4 :: TL_order_19
def TL_order_16 : List UInt8 := 58 :: 5 :: TL_order_18
def TL_order_13 : List UInt8 := 167 :: 0 :: 7 :: TL_order_16
def TL_order_10 : List UInt8 := 181 :: 0 :: 13 :: TL_order_13
def TL_order_9 : List UInt8 := 133 :: TL_order_10
def TL_order_6 : List UInt8 := 182 :: 0 :: 131 :: TL_order_9
def TL_order_5 : List UInt8 := 29 :: TL_order_6
def TL_order_4 : List UInt8 := 28 :: TL_order_5
def TL_order_3 : List UInt8 := 27 :: TL_order_4
def TL_order_2 : List UInt8 := 42 :: TL_order_3
def TL_order_0 : List UInt8 := 25 :: 4 :: TL_order_2
theorem DL_order_0 : cL_order.data.toList.drop 0 = TL_order_0 := by decide +kernel
theorem DL_order_2 : cL_order.data.toList.drop 2 = TL_order_2 := dr2 DL_order_0
theorem DL_order_3 : cL_order.data.toList.drop 3 = TL_order_3 := dr1 DL_order_2
theorem DL_order_4 : cL_order.data.toList.drop 4 = TL_order_4 := dr1 DL_order_3
theorem DL_order_5 : cL_order.data.toList.drop 5 = TL_order_5 := dr1 DL_order_4
theorem DL_order_6 : cL_order.data.toList.drop 6 = TL_order_6 := dr1 DL_order_5
theorem DL_order_9 : cL_order.data.toList.drop 9 = TL_order_9 := dr3 DL_order_6
theorem DL_order_10 : cL_order.data.toList.drop 10 = TL_order_10 := dr1 DL_order_9
theorem DL_order_13 : cL_order.data.toList.drop 13 = TL_order_13 := dr3 DL_order_10
theorem DL_order_16 : cL_order.data.toList.drop 16 = TL_order_16 := dr3 DL_order_13
theorem DL_order_18 : cL_order.data.toList.drop 18 = TL_order_18 := dr2 DL_order_16
theorem DL_order_19 : cL_order.data.toList.drop 19 = TL_order_19 := dr1 DL_order_18
theorem DL_order_20 : cL_order.data.toList.drop 20 = TL_order_20 := dr1 DL_order_19
theorem DL_order_21 : cL_order.data.toList.drop 21 = TL_order_21 := dr1 DL_order_20
theorem dL_order_0 : decode cL_order 0 = .ok (.aload 4, 2) := do_19 DL_order_0
theorem dL_order_2 : decode cL_order 2 = .ok (.aload_n 0, 1) := do_2a DL_order_2
theorem dL_order_3 : decode cL_order 3 = .ok (.iload_n 1, 1) := do_1b DL_order_3
theorem dL_order_4 : decode cL_order 4 = .ok (.iload_n 2, 1) := do_1c DL_order_4
theorem dL_order_5 : decode cL_order 5 = .ok (.iload_n 3, 1) := do_1d DL_order_5
theorem dL_order_6 : decode cL_order 6 = .ok (.invokevirtual 131, 3) := do_b6 DL_order_6
theorem dL_order_9 : decode cL_order 9 = .ok (.i2l, 1) := do_85 DL_order_9
theorem dL_order_10 : decode cL_order 10 = .ok (.putfield 13, 3) := do_b5 DL_order_10
theorem dL_order_13 : decode cL_order 13 = .ok (.goto 7, 3) := do_a7 DL_order_13 (by decide +kernel)
theorem dL_order_16 : decode cL_order 16 = .ok (.astore 5, 2) := do_3a DL_order_16
theorem dL_order_18 : decode cL_order 18 = .ok (.iconst 1, 1) := do_04 DL_order_18
theorem dL_order_19 : decode cL_order 19 = .ok (.ireturn, 1) := do_ac DL_order_19
theorem dL_order_20 : decode cL_order 20 = .ok (.iconst 0, 1) := do_03 DL_order_20
theorem dL_order_21 : decode cL_order 21 = .ok (.ireturn, 1) := do_ac DL_order_21
def TL_isSame_27 : List UInt8 := []
def TL_isSame_26 : List UInt8 := 172 :: TL_isSame_27
def TL_isSame_25 : List UInt8 := 3 :: TL_isSame_26
def TL_isSame_24 : List UInt8 := 172 :: TL_isSame_25
def TL_isSame_23 : List UInt8 := 4 :: TL_isSame_24
def TL_isSame_21 : List UInt8 := 58 :: 4 :: TL_isSame_23
def TL_isSame_18 : List UInt8 := 167 :: 0 :: 7 :: TL_isSame_21
def TL_isSame_15 : List UInt8 := 181 :: 0 :: 13 :: TL_isSame_18
def TL_isSame_14 : List UInt8 := 9 :: TL_isSame_15
def TL_isSame_11 : List UInt8 := 167 :: 0 :: 4 :: TL_isSame_14
def TL_isSame_10 : List UInt8 := 10 :: TL_isSame_11
def TL_isSame_7 : List UInt8 := 153 :: 0 :: 7 :: TL_isSame_10
def TL_isSame_4 : List UInt8 := 182 :: 0 :: 135 :: TL_isSame_7
def TL_isSame_3 : List UInt8 := 28 :: TL_isSame_4
def TL_isSame_2 : List UInt8 := 27 :: TL_isSame_3
def TL_isSame_1 : List UInt8 := 42 :: TL_isSame_2
def TL_isSame_0 : List UInt8 := 45 :: TL_isSame_1
theorem DL_isSame_0 : cL_isSame.data.toList.drop 0 = TL_isSame_0 := by decide +kernel
theorem DL_isSame_1 : cL_isSame.data.toList.drop 1 = TL_isSame_1 := dr1 DL_isSame_0
theorem DL_isSame_2 : cL_isSame.data.toList.drop 2 = TL_isSame_2 := dr1 DL_isSame_1
theorem DL_isSame_3 : cL_isSame.data.toList.drop 3 = TL_isSame_3 := dr1 DL_isSame_2
theorem DL_isSame_4 : cL_isSame.data.toList.drop 4 = TL_isSame_4 := dr1 DL_isSame_3
theorem DL_isSame_7 : cL_isSame.data.toList.drop 7 = TL_isSame_7 := dr3 DL_isSame_4
theorem DL_isSame_10 : cL_isSame.data.toList.drop 10 = TL_isSame_10 := dr3 DL_isSame_7
theorem DL_isSame_11 : cL_isSame.data.toList.drop 11 = TL_isSame_11 := dr1 DL_isSame_10
theorem DL_isSame_14 : cL_isSame.data.toList.drop 14 = TL_isSame_14 := dr3 DL_isSame_11
theorem DL_isSame_15 : cL_isSame.data.toList.drop 15 = TL_isSame_15 := dr1 DL_isSame_14
theorem DL_isSame_18 : cL_isSame.data.toList.drop 18 = TL_isSame_18 := dr3 DL_isSame_15
theorem DL_isSame_21 : cL_isSame.data.toList.drop 21 = TL_isSame_21 := dr3 DL_isSame_18
theorem DL_isSame_23 : cL_isSame.data.toList.drop 23 = TL_isSame_23 := dr2 DL_isSame_21
theorem DL_isSame_24 : cL_isSame.data.toList.drop 24 = TL_isSame_24 := dr1 DL_isSame_23
theorem DL_isSame_25 : cL_isSame.data.toList.drop 25 = TL_isSame_25 := dr1 DL_isSame_24
theorem DL_isSame_26 : cL_isSame.data.toList.drop 26 = TL_isSame_26 := dr1 DL_isSame_25
theorem dL_isSame_0 : decode cL_isSame 0 = .ok (.aload_n 3, 1) := do_2d DL_isSame_0
theorem dL_isSame_1 : decode cL_isSame 1 = .ok (.aload_n 0, 1) := do_2a DL_isSame_1
theorem dL_isSame_2 : decode cL_isSame 2 = .ok (.iload_n 1, 1) := do_1b DL_isSame_2
theorem dL_isSame_3 : decode cL_isSame 3 = .ok (.iload_n 2, 1) := do_1c DL_isSame_3
theorem dL_isSame_4 : decode cL_isSame 4 = .ok (.invokevirtual 135, 3) := do_b6 DL_isSame_4
theorem dL_isSame_7 : decode cL_isSame 7 = .ok (.ifCond .eq 7, 3) := do_99 DL_isSame_7 (by decide +kernel)
theorem dL_isSame_10 : decode cL_isSame 10 = .ok (.lconst 1, 1) := do_0a DL_isSame_10
theorem dL_isSame_11 : decode cL_isSame 11 = .ok (.goto 4, 3) := do_a7 DL_isSame_11 (by decide +kernel)
theorem dL_isSame_14 : decode cL_isSame 14 = .ok (.lconst 0, 1) := do_09 DL_isSame_14
theorem dL_isSame_15 : decode cL_isSame 15 = .ok (.putfield 13, 3) := do_b5 DL_isSame_15
theorem dL_isSame_18 : decode cL_isSame 18 = .ok (.goto 7, 3) := do_a7 DL_isSame_18 (by decide +kernel)
theorem dL_isSame_21 : decode cL_isSame 21 = .ok (.astore 4, 2) := do_3a DL_isSame_21
theorem dL_isSame_23 : decode cL_isSame 23 = .ok (.iconst 1, 1) := do_04 DL_isSame_23
theorem dL_isSame_24 : decode cL_isSame 24 = .ok (.ireturn, 1) := do_ac DL_isSame_24
theorem dL_isSame_25 : decode cL_isSame 25 = .ok (.iconst 0, 1) := do_03 DL_isSame_25
theorem dL_isSame_26 : decode cL_isSame 26 = .ok (.ireturn, 1) := do_ac DL_isSame_26
def TL_split_24 : List UInt8 := []
def TL_split_23 : List UInt8 := 172 :: TL_split_24
def TL_split_22 : List UInt8 := 3 :: TL_split_23
def TL_split_21 : List UInt8 := 172 :: TL_split_22
def TL_split_20 : List UInt8 := 5 :: TL_split_21
def TL_split_18 : List UInt8 := 58 :: 4 :: TL_split_20
def TL_split_17 : List UInt8 := 172 :: TL_split_18
def TL_split_16 : List UInt8 := 4 :: TL_split_17
def TL_split_14 : List UInt8 := 58 :: 4 :: TL_split_16
def TL_split_11 : List UInt8 := 167 :: 0 :: 11 :: TL_split_14
def TL_split_8 : List UInt8 := 181 :: 0 :: 13 :: TL_split_11
def TL_split_7 : List UInt8 := 133 :: TL_split_8
def TL_split_4 : List UInt8 := 182 :: 0 :: 138 :: TL_split_7
def TL_split_3 : List UInt8 := 28 :: TL_split_4
def TL_split_2 : List UInt8 := 27 :: TL_split_3
def TL_split_1 : List UInt8 := 42 :: TL_split_2
def TL_split_0 : List UInt8 := 45 :: TL_split_1
theorem DL_split_0 : cL_split.data.toList.drop 0 = TL_split_0 := by decide +kernel
theorem DL_split_1 : cL_split.data.toList.drop 1 = TL_split_1 := dr1 DL_split_0
theorem DL_split_2 : cL_split.data.toList.drop 2 = TL_split_2 := dr1 DL_split_1
theorem DL_split_3 : cL_split.data.toList.drop 3 = TL_split_3 := dr1 DL_split_2
theorem DL_split_4 : cL_split.data.toList.drop 4 = TL_split_4 := dr1 DL_split_3
theorem DL_split_7 : cL_split.data.toList.drop 7 = TL_split_7 := dr3 DL_split_4
theorem DL_split_8 : cL_split.data.toList.drop 8 = TL_split_8 := dr1 DL_split_7
theorem DL_split_11 : cL_split.data.toList.drop 11 = TL_split_11 := dr3 DL_split_8
theorem DL_split_14 : cL_split.data.toList.drop 14 = TL_split_14 := dr3 DL_split_11
theorem DL_split_16 : cL_split.data.toList.drop 16 = TL_split_16 := dr2 DL_split_14
theorem DL_split_17 : cL_split.data.toList.drop 17 = TL_split_17 := dr1 DL_split_16
theorem DL_split_18 : cL_split.data.toList.drop 18 = TL_split_18 := dr1 DL_split_17
theorem DL_split_20 : cL_split.data.toList.drop 20 = TL_split_20 := dr2 DL_split_18
theorem DL_split_21 : cL_split.data.toList.drop 21 = TL_split_21 := dr1 DL_split_20
theorem DL_split_22 : cL_split.data.toList.drop 22 = TL_split_22 := dr1 DL_split_21
theorem DL_split_23 : cL_split.data.toList.drop 23 = TL_split_23 := dr1 DL_split_22
theorem dL_split_0 : decode cL_split 0 = .ok (.aload_n 3, 1) := do_2d DL_split_0
theorem dL_split_1 : decode cL_split 1 = .ok (.aload_n 0, 1) := do_2a DL_split_1
theorem dL_split_2 : decode cL_split 2 = .ok (.iload_n 1, 1) := do_1b DL_split_2
theorem dL_split_3 : decode cL_split 3 = .ok (.iload_n 2, 1) := do_1c DL_split_3
theorem dL_split_4 : decode cL_split 4 = .ok (.invokevirtual 138, 3) := do_b6 DL_split_4
theorem dL_split_7 : decode cL_split 7 = .ok (.i2l, 1) := do_85 DL_split_7
theorem dL_split_8 : decode cL_split 8 = .ok (.putfield 13, 3) := do_b5 DL_split_8
theorem dL_split_11 : decode cL_split 11 = .ok (.goto 11, 3) := do_a7 DL_split_11 (by decide +kernel)
theorem dL_split_14 : decode cL_split 14 = .ok (.astore 4, 2) := do_3a DL_split_14
theorem dL_split_16 : decode cL_split 16 = .ok (.iconst 1, 1) := do_04 DL_split_16
theorem dL_split_17 : decode cL_split 17 = .ok (.ireturn, 1) := do_ac DL_split_17
theorem dL_split_18 : decode cL_split 18 = .ok (.astore 4, 2) := do_3a DL_split_18
theorem dL_split_20 : decode cL_split 20 = .ok (.iconst 2, 1) := do_05 DL_split_20
theorem dL_split_21 : decode cL_split 21 = .ok (.ireturn, 1) := do_ac DL_split_21
theorem dL_split_22 : decode cL_split 22 = .ok (.iconst 0, 1) := do_03 DL_split_22
theorem dL_split_23 : decode cL_split 23 = .ok (.ireturn, 1) := do_ac DL_split_23
def TL_euclid_18 : List UInt8 := []
def TL_euclid_17 : List UInt8 := 172 :: TL_euclid_18
def TL_euclid_16 : List UInt8 := 3 :: TL_euclid_17
def TL_euclid_15 : List UInt8 := 172 :: TL_euclid_16
def TL_euclid_14 : List UInt8 := 4 :: TL_euclid_15
def TL_euclid_13 : List UInt8 := 78 :: TL_euclid_14
def TL_euclid_10 : List UInt8 := 167 :: 0 :: 6 :: TL_euclid_13
def TL_euclid_7 : List UInt8 := 181 :: 0 :: 13 :: TL_euclid_10
def TL_euclid_6 : List UInt8 := 133 :: TL_euclid_7
def TL_euclid_3 : List UInt8 := 182 :: 0 :: 141 :: TL_euclid_6
def TL_euclid_2 : List UInt8 := 27 :: TL_euclid_3
def TL_euclid_1 : List UInt8 := 42 :: TL_euclid_2
def TL_euclid_0 : List UInt8 := 44 :: TL_euclid_1
theorem DL_euclid_0 : cL_euclid.data.toList.drop 0 = TL_euclid_0 := by decide +kernel
theorem DL_euclid_1 : cL_euclid.data.toList.drop 1 = TL_euclid_1 := dr1 DL_euclid_0
theorem DL_euclid_2 : cL_euclid.data.toList.drop 2 = TL_euclid_2 := dr1 DL_euclid_1
theorem DL_euclid_3 : cL_euclid.data.toList.drop 3 = TL_euclid_3 := dr1 DL_euclid_2
theorem DL_euclid_6 : cL_euclid.data.toList.drop 6 = TL_euclid_6 := dr3 DL_euclid_3
theorem DL_euclid_7 : cL_euclid.data.toList.drop 7 = TL_euclid_7 := dr1 DL_euclid_6
theorem DL_euclid_10 : cL_euclid.data.toList.drop 10 = TL_euclid_10 := dr3 DL_euclid_7
theorem DL_euclid_13 : cL_euclid.data.toList.drop 13 = TL_euclid_13 := dr3 DL_euclid_10
theorem DL_euclid_14 : cL_euclid.data.toList.drop 14 = TL_euclid_14 := dr1 DL_euclid_13
theorem DL_euclid_15 : cL_euclid.data.toList.drop 15 = TL_euclid_15 := dr1 DL_euclid_14
theorem DL_euclid_16 : cL_euclid.data.toList.drop 16 = TL_euclid_16 := dr1 DL_euclid_15
theorem DL_euclid_17 : cL_euclid.data.toList.drop 17 = TL_euclid_17 := dr1 DL_euclid_16
theorem dL_euclid_0 : decode cL_euclid 0 = .ok (.aload_n 2, 1) := do_2c DL_euclid_0
theorem dL_euclid_1 : decode cL_euclid 1 = .ok (.aload_n 0, 1) := do_2a DL_euclid_1
theorem dL_euclid_2 : decode cL_euclid 2 = .ok (.iload_n 1, 1) := do_1b DL_euclid_2
theorem dL_euclid_3 : decode cL_euclid 3 = .ok (.invokevirtual 141, 3) := do_b6 DL_euclid_3
theorem dL_euclid_6 : decode cL_euclid 6 = .ok (.i2l, 1) := do_85 DL_euclid_6
theorem dL_euclid_7 : decode cL_euclid 7 = .ok (.putfield 13, 3) := do_b5 DL_euclid_7
theorem dL_euclid_10 : decode cL_euclid 10 = .ok (.goto 6, 3) := do_a7 DL_euclid_10 (by decide +kernel)
theorem dL_euclid_13 : decode cL_euclid 13 = .ok (.astore_n 3, 1) := do_4e DL_euclid_13
theorem dL_euclid_14 : decode cL_euclid 14 = .ok (.iconst 1, 1) := do_04 DL_euclid_14
theorem dL_euclid_15 : decode cL_euclid 15 = .ok (.ireturn, 1) := do_ac DL_euclid_15
theorem dL_euclid_16 : decode cL_euclid 16 = .ok (.iconst 0, 1) := do_03 DL_euclid_16
theorem dL_euclid_17 : decode cL_euclid 17 = .ok (.ireturn, 1) := do_ac DL_euclid_17
def TL_settle_18 : List UInt8 := []
def TL_settle_17 : List UInt8 := 172 :: TL_settle_18
def TL_settle_16 : List UInt8 := 3 :: TL_settle_17
def TL_settle_15 : List UInt8 := 172 :: TL_settle_16
def TL_settle_14 : List UInt8 := 4 :: TL_settle_15
def TL_settle_13 : List UInt8 := 78 :: TL_settle_14
def TL_settle_10 : List UInt8 := 167 :: 0 :: 6 :: TL_settle_13
def TL_settle_7 : List UInt8 := 181 :: 0 :: 13 :: TL_settle_10
def TL_settle_6 : List UInt8 := 133 :: TL_settle_7
def TL_settle_3 : List UInt8 := 182 :: 0 :: 144 :: TL_settle_6
def TL_settle_2 : List UInt8 := 27 :: TL_settle_3
def TL_settle_1 : List UInt8 := 42 :: TL_settle_2
def TL_settle_0 : List UInt8 := 44 :: TL_settle_1
theorem DL_settle_0 : cL_settle.data.toList.drop 0 = TL_settle_0 := by decide +kernel
theorem DL_settle_1 : cL_settle.data.toList.drop 1 = TL_settle_1 := dr1 DL_settle_0
theorem DL_settle_2 : cL_settle.data.toList.drop 2 = TL_settle_2 := dr1 DL_settle_1
theorem DL_settle_3 : cL_settle.data.toList.drop 3 = TL_settle_3 := dr1 DL_settle_2
theorem DL_settle_6 : cL_settle.data.toList.drop 6 = TL_settle_6 := dr3 DL_settle_3
theorem DL_settle_7 : cL_settle.data.toList.drop 7 = TL_settle_7 := dr1 DL_settle_6
theorem DL_settle_10 : cL_settle.data.toList.drop 10 = TL_settle_10 := dr3 DL_settle_7
theorem DL_settle_13 : cL_settle.data.toList.drop 13 = TL_settle_13 := dr3 DL_settle_10
theorem DL_settle_14 : cL_settle.data.toList.drop 14 = TL_settle_14 := dr1 DL_settle_13
theorem DL_settle_15 : cL_settle.data.toList.drop 15 = TL_settle_15 := dr1 DL_settle_14
theorem DL_settle_16 : cL_settle.data.toList.drop 16 = TL_settle_16 := dr1 DL_settle_15
theorem DL_settle_17 : cL_settle.data.toList.drop 17 = TL_settle_17 := dr1 DL_settle_16
theorem dL_settle_0 : decode cL_settle 0 = .ok (.aload_n 2, 1) := do_2c DL_settle_0
theorem dL_settle_1 : decode cL_settle 1 = .ok (.aload_n 0, 1) := do_2a DL_settle_1
theorem dL_settle_2 : decode cL_settle 2 = .ok (.iload_n 1, 1) := do_1b DL_settle_2
theorem dL_settle_3 : decode cL_settle 3 = .ok (.invokevirtual 144, 3) := do_b6 DL_settle_3
theorem dL_settle_6 : decode cL_settle 6 = .ok (.i2l, 1) := do_85 DL_settle_6
theorem dL_settle_7 : decode cL_settle 7 = .ok (.putfield 13, 3) := do_b5 DL_settle_7
theorem dL_settle_10 : decode cL_settle 10 = .ok (.goto 6, 3) := do_a7 DL_settle_10 (by decide +kernel)
theorem dL_settle_13 : decode cL_settle 13 = .ok (.astore_n 3, 1) := do_4e DL_settle_13
theorem dL_settle_14 : decode cL_settle 14 = .ok (.iconst 1, 1) := do_04 DL_settle_14
theorem dL_settle_15 : decode cL_settle 15 = .ok (.ireturn, 1) := do_ac DL_settle_15
theorem dL_settle_16 : decode cL_settle 16 = .ok (.iconst 0, 1) := do_03 DL_settle_16
theorem dL_settle_17 : decode cL_settle 17 = .ok (.ireturn, 1) := do_ac DL_settle_17
def TL_splitNumber_24 : List UInt8 := []
def TL_splitNumber_23 : List UInt8 := 172 :: TL_splitNumber_24
def TL_splitNumber_22 : List UInt8 := 3 :: TL_splitNumber_23
def TL_splitNumber_21 : List UInt8 := 172 :: TL_splitNumber_22
def TL_splitNumber_20 : List UInt8 := 5 :: TL_splitNumber_21
def TL_splitNumber_18 : List UInt8 := 58 :: 4 :: TL_splitNumber_20
def TL_splitNumber_17 : List UInt8 := 172 :: TL_splitNumber_18
def TL_splitNumber_16 : List UInt8 := 4 :: TL_splitNumber_17
def TL_splitNumber_14 : List UInt8 := 58 :: 4 :: TL_splitNumber_16
def TL_splitNumber_11 : List UInt8 := 167 :: 0 :: 11 :: TL_splitNumber_14
def TL_splitNumber_8 : List UInt8 := 181 :: 0 :: 13 :: TL_splitNumber_11
def TL_splitNumber_7 : List UInt8 := 133 :: TL_splitNumber_8
def TL_splitNumber_4 : List UInt8 := 182 :: 0 :: 147 :: TL_splitNumber_7
def TL_splitNumber_3 : List UInt8 := 28 :: TL_splitNumber_4
def TL_splitNumber_2 : List UInt8 := 27 :: TL_splitNumber_3
def TL_splitNumber_1 : List UInt8 := 42 :: TL_splitNumber_2
def TL_splitNumber_0 : List UInt8 := 45 :: TL_splitNumber_1
theorem DL_splitNumber_0 : cL_splitNumber.data.toList.drop 0 = TL_splitNumber_0 := by decide +kernel
theorem DL_splitNumber_1 : cL_splitNumber.data.toList.drop 1 = TL_splitNumber_1 := dr1 DL_splitNumber_0
theorem DL_splitNumber_2 : cL_splitNumber.data.toList.drop 2 = TL_splitNumber_2 := dr1 DL_splitNumber_1
theorem DL_splitNumber_3 : cL_splitNumber.data.toList.drop 3 = TL_splitNumber_3 := dr1 DL_splitNumber_2
theorem DL_splitNumber_4 : cL_splitNumber.data.toList.drop 4 = TL_splitNumber_4 := dr1 DL_splitNumber_3
theorem DL_splitNumber_7 : cL_splitNumber.data.toList.drop 7 = TL_splitNumber_7 := dr3 DL_splitNumber_4
theorem DL_splitNumber_8 : cL_splitNumber.data.toList.drop 8 = TL_splitNumber_8 := dr1 DL_splitNumber_7
theorem DL_splitNumber_11 : cL_splitNumber.data.toList.drop 11 = TL_splitNumber_11 := dr3 DL_splitNumber_8
theorem DL_splitNumber_14 : cL_splitNumber.data.toList.drop 14 = TL_splitNumber_14 := dr3 DL_splitNumber_11
theorem DL_splitNumber_16 : cL_splitNumber.data.toList.drop 16 = TL_splitNumber_16 := dr2 DL_splitNumber_14
theorem DL_splitNumber_17 : cL_splitNumber.data.toList.drop 17 = TL_splitNumber_17 := dr1 DL_splitNumber_16
theorem DL_splitNumber_18 : cL_splitNumber.data.toList.drop 18 = TL_splitNumber_18 := dr1 DL_splitNumber_17
theorem DL_splitNumber_20 : cL_splitNumber.data.toList.drop 20 = TL_splitNumber_20 := dr2 DL_splitNumber_18
theorem DL_splitNumber_21 : cL_splitNumber.data.toList.drop 21 = TL_splitNumber_21 := dr1 DL_splitNumber_20
theorem DL_splitNumber_22 : cL_splitNumber.data.toList.drop 22 = TL_splitNumber_22 := dr1 DL_splitNumber_21
theorem DL_splitNumber_23 : cL_splitNumber.data.toList.drop 23 = TL_splitNumber_23 := dr1 DL_splitNumber_22
theorem dL_splitNumber_0 : decode cL_splitNumber 0 = .ok (.aload_n 3, 1) := do_2d DL_splitNumber_0
theorem dL_splitNumber_1 : decode cL_splitNumber 1 = .ok (.aload_n 0, 1) := do_2a DL_splitNumber_1
theorem dL_splitNumber_2 : decode cL_splitNumber 2 = .ok (.iload_n 1, 1) := do_1b DL_splitNumber_2
theorem dL_splitNumber_3 : decode cL_splitNumber 3 = .ok (.iload_n 2, 1) := do_1c DL_splitNumber_3
theorem dL_splitNumber_4 : decode cL_splitNumber 4 = .ok (.invokevirtual 147, 3) := do_b6 DL_splitNumber_4
theorem dL_splitNumber_7 : decode cL_splitNumber 7 = .ok (.i2l, 1) := do_85 DL_splitNumber_7
theorem dL_splitNumber_8 : decode cL_splitNumber 8 = .ok (.putfield 13, 3) := do_b5 DL_splitNumber_8
theorem dL_splitNumber_11 : decode cL_splitNumber 11 = .ok (.goto 11, 3) := do_a7 DL_splitNumber_11 (by decide +kernel)
theorem dL_splitNumber_14 : decode cL_splitNumber 14 = .ok (.astore 4, 2) := do_3a DL_splitNumber_14
theorem dL_splitNumber_16 : decode cL_splitNumber 16 = .ok (.iconst 1, 1) := do_04 DL_splitNumber_16
theorem dL_splitNumber_17 : decode cL_splitNumber 17 = .ok (.ireturn, 1) := do_ac DL_splitNumber_17
theorem dL_splitNumber_18 : decode cL_splitNumber 18 = .ok (.astore 4, 2) := do_3a DL_splitNumber_18
theorem dL_splitNumber_20 : decode cL_splitNumber 20 = .ok (.iconst 2, 1) := do_05 DL_splitNumber_20
theorem dL_splitNumber_21 : decode cL_splitNumber 21 = .ok (.ireturn, 1) := do_ac DL_splitNumber_21
theorem dL_splitNumber_22 : decode cL_splitNumber 22 = .ok (.iconst 0, 1) := do_03 DL_splitNumber_22
theorem dL_splitNumber_23 : decode cL_splitNumber 23 = .ok (.ireturn, 1) := do_ac DL_splitNumber_23
def TL_way_17 : List UInt8 := []
def TL_way_16 : List UInt8 := 172 :: TL_way_17
def TL_way_15 : List UInt8 := 3 :: TL_way_16
def TL_way_14 : List UInt8 := 172 :: TL_way_15
def TL_way_13 : List UInt8 := 4 :: TL_way_14
def TL_way_12 : List UInt8 := 78 :: TL_way_13
def TL_way_9 : List UInt8 := 167 :: 0 :: 6 :: TL_way_12
def TL_way_6 : List UInt8 := 181 :: 0 :: 40 :: TL_way_9
def TL_way_3 : List UInt8 := 182 :: 0 :: 150 :: TL_way_6
def TL_way_2 : List UInt8 := 27 :: TL_way_3
def TL_way_1 : List UInt8 := 42 :: TL_way_2
def TL_way_0 : List UInt8 := 44 :: TL_way_1
theorem DL_way_0 : cL_way.data.toList.drop 0 = TL_way_0 := by decide +kernel
theorem DL_way_1 : cL_way.data.toList.drop 1 = TL_way_1 := dr1 DL_way_0
theorem DL_way_2 : cL_way.data.toList.drop 2 = TL_way_2 := dr1 DL_way_1
theorem DL_way_3 : cL_way.data.toList.drop 3 = TL_way_3 := dr1 DL_way_2
theorem DL_way_6 : cL_way.data.toList.drop 6 = TL_way_6 := dr3 DL_way_3
theorem DL_way_9 : cL_way.data.toList.drop 9 = TL_way_9 := dr3 DL_way_6
theorem DL_way_12 : cL_way.data.toList.drop 12 = TL_way_12 := dr3 DL_way_9
theorem DL_way_13 : cL_way.data.toList.drop 13 = TL_way_13 := dr1 DL_way_12
theorem DL_way_14 : cL_way.data.toList.drop 14 = TL_way_14 := dr1 DL_way_13
theorem DL_way_15 : cL_way.data.toList.drop 15 = TL_way_15 := dr1 DL_way_14
theorem DL_way_16 : cL_way.data.toList.drop 16 = TL_way_16 := dr1 DL_way_15
theorem dL_way_0 : decode cL_way 0 = .ok (.aload_n 2, 1) := do_2c DL_way_0
theorem dL_way_1 : decode cL_way 1 = .ok (.aload_n 0, 1) := do_2a DL_way_1
theorem dL_way_2 : decode cL_way 2 = .ok (.iload_n 1, 1) := do_1b DL_way_2
theorem dL_way_3 : decode cL_way 3 = .ok (.invokevirtual 150, 3) := do_b6 DL_way_3
theorem dL_way_6 : decode cL_way 6 = .ok (.putfield 40, 3) := do_b5 DL_way_6
theorem dL_way_9 : decode cL_way 9 = .ok (.goto 6, 3) := do_a7 DL_way_9 (by decide +kernel)
theorem dL_way_12 : decode cL_way 12 = .ok (.astore_n 3, 1) := do_4e DL_way_12
theorem dL_way_13 : decode cL_way 13 = .ok (.iconst 1, 1) := do_04 DL_way_13
theorem dL_way_14 : decode cL_way 14 = .ok (.ireturn, 1) := do_ac DL_way_14
theorem dL_way_15 : decode cL_way 15 = .ok (.iconst 0, 1) := do_03 DL_way_15
theorem dL_way_16 : decode cL_way 16 = .ok (.ireturn, 1) := do_ac DL_way_16
def TL_product_19 : List UInt8 := []
def TL_product_18 : List UInt8 := 172 :: TL_product_19
def TL_product_17 : List UInt8 := 3 :: TL_product_18
def TL_product_16 : List UInt8 := 172 :: TL_product_17
def TL_product_15 : List UInt8 := 4 :: TL_product_16
def TL_product_13 : List UInt8 := 58 :: 4 :: TL_product_15
def TL_product_10 : List UInt8 := 167 :: 0 :: 7 :: TL_product_13
def TL_product_7 : List UInt8 := 181 :: 0 :: 40 :: TL_product_10
def TL_product_4 : List UInt8 := 182 :: 0 :: 153 :: TL_product_7
def TL_product_3 : List UInt8 := 28 :: TL_product_4
def TL_product_2 : List UInt8 := 27 :: TL_product_3
def TL_product_1 : List UInt8 := 42 :: TL_product_2
def TL_product_0 : List UInt8 := 45 :: TL_product_1
theorem DL_product_0 : cL_product.data.toList.drop 0 = TL_product_0 := by decide +kernel
theorem DL_product_1 : cL_product.data.toList.drop 1 = TL_product_1 := dr1 DL_product_0
theorem DL_product_2 : cL_product.data.toList.drop 2 = TL_product_2 := dr1 DL_product_1
theorem DL_product_3 : cL_product.data.toList.drop 3 = TL_product_3 := dr1 DL_product_2
theorem DL_product_4 : cL_product.data.toList.drop 4 = TL_product_4 := dr1 DL_product_3
theorem DL_product_7 : cL_product.data.toList.drop 7 = TL_product_7 := dr3 DL_product_4
theorem DL_product_10 : cL_product.data.toList.drop 10 = TL_product_10 := dr3 DL_product_7
theorem DL_product_13 : cL_product.data.toList.drop 13 = TL_product_13 := dr3 DL_product_10
theorem DL_product_15 : cL_product.data.toList.drop 15 = TL_product_15 := dr2 DL_product_13
theorem DL_product_16 : cL_product.data.toList.drop 16 = TL_product_16 := dr1 DL_product_15
theorem DL_product_17 : cL_product.data.toList.drop 17 = TL_product_17 := dr1 DL_product_16
theorem DL_product_18 : cL_product.data.toList.drop 18 = TL_product_18 := dr1 DL_product_17
theorem dL_product_0 : decode cL_product 0 = .ok (.aload_n 3, 1) := do_2d DL_product_0
theorem dL_product_1 : decode cL_product 1 = .ok (.aload_n 0, 1) := do_2a DL_product_1
theorem dL_product_2 : decode cL_product 2 = .ok (.iload_n 1, 1) := do_1b DL_product_2
theorem dL_product_3 : decode cL_product 3 = .ok (.iload_n 2, 1) := do_1c DL_product_3
theorem dL_product_4 : decode cL_product 4 = .ok (.invokevirtual 153, 3) := do_b6 DL_product_4
theorem dL_product_7 : decode cL_product 7 = .ok (.putfield 40, 3) := do_b5 DL_product_7
theorem dL_product_10 : decode cL_product 10 = .ok (.goto 7, 3) := do_a7 DL_product_10 (by decide +kernel)
theorem dL_product_13 : decode cL_product 13 = .ok (.astore 4, 2) := do_3a DL_product_13
theorem dL_product_15 : decode cL_product 15 = .ok (.iconst 1, 1) := do_04 DL_product_15
theorem dL_product_16 : decode cL_product 16 = .ok (.ireturn, 1) := do_ac DL_product_16
theorem dL_product_17 : decode cL_product 17 = .ok (.iconst 0, 1) := do_03 DL_product_17
theorem dL_product_18 : decode cL_product 18 = .ok (.ireturn, 1) := do_ac DL_product_18
def TL_symbol_24 : List UInt8 := []
def TL_symbol_23 : List UInt8 := 172 :: TL_symbol_24
def TL_symbol_22 : List UInt8 := 3 :: TL_symbol_23
def TL_symbol_21 : List UInt8 := 172 :: TL_symbol_22
def TL_symbol_20 : List UInt8 := 5 :: TL_symbol_21
def TL_symbol_18 : List UInt8 := 58 :: 4 :: TL_symbol_20
def TL_symbol_17 : List UInt8 := 172 :: TL_symbol_18
def TL_symbol_16 : List UInt8 := 4 :: TL_symbol_17
def TL_symbol_14 : List UInt8 := 58 :: 4 :: TL_symbol_16
def TL_symbol_11 : List UInt8 := 167 :: 0 :: 11 :: TL_symbol_14
def TL_symbol_8 : List UInt8 := 181 :: 0 :: 13 :: TL_symbol_11
def TL_symbol_7 : List UInt8 := 133 :: TL_symbol_8
def TL_symbol_4 : List UInt8 := 182 :: 0 :: 156 :: TL_symbol_7
def TL_symbol_3 : List UInt8 := 28 :: TL_symbol_4
def TL_symbol_2 : List UInt8 := 27 :: TL_symbol_3
def TL_symbol_1 : List UInt8 := 42 :: TL_symbol_2
def TL_symbol_0 : List UInt8 := 45 :: TL_symbol_1
theorem DL_symbol_0 : cL_symbol.data.toList.drop 0 = TL_symbol_0 := by decide +kernel
theorem DL_symbol_1 : cL_symbol.data.toList.drop 1 = TL_symbol_1 := dr1 DL_symbol_0
theorem DL_symbol_2 : cL_symbol.data.toList.drop 2 = TL_symbol_2 := dr1 DL_symbol_1
theorem DL_symbol_3 : cL_symbol.data.toList.drop 3 = TL_symbol_3 := dr1 DL_symbol_2
theorem DL_symbol_4 : cL_symbol.data.toList.drop 4 = TL_symbol_4 := dr1 DL_symbol_3
theorem DL_symbol_7 : cL_symbol.data.toList.drop 7 = TL_symbol_7 := dr3 DL_symbol_4
theorem DL_symbol_8 : cL_symbol.data.toList.drop 8 = TL_symbol_8 := dr1 DL_symbol_7
theorem DL_symbol_11 : cL_symbol.data.toList.drop 11 = TL_symbol_11 := dr3 DL_symbol_8
theorem DL_symbol_14 : cL_symbol.data.toList.drop 14 = TL_symbol_14 := dr3 DL_symbol_11
theorem DL_symbol_16 : cL_symbol.data.toList.drop 16 = TL_symbol_16 := dr2 DL_symbol_14
theorem DL_symbol_17 : cL_symbol.data.toList.drop 17 = TL_symbol_17 := dr1 DL_symbol_16
theorem DL_symbol_18 : cL_symbol.data.toList.drop 18 = TL_symbol_18 := dr1 DL_symbol_17
theorem DL_symbol_20 : cL_symbol.data.toList.drop 20 = TL_symbol_20 := dr2 DL_symbol_18
theorem DL_symbol_21 : cL_symbol.data.toList.drop 21 = TL_symbol_21 := dr1 DL_symbol_20
theorem DL_symbol_22 : cL_symbol.data.toList.drop 22 = TL_symbol_22 := dr1 DL_symbol_21
theorem DL_symbol_23 : cL_symbol.data.toList.drop 23 = TL_symbol_23 := dr1 DL_symbol_22
theorem dL_symbol_0 : decode cL_symbol 0 = .ok (.aload_n 3, 1) := do_2d DL_symbol_0
theorem dL_symbol_1 : decode cL_symbol 1 = .ok (.aload_n 0, 1) := do_2a DL_symbol_1
theorem dL_symbol_2 : decode cL_symbol 2 = .ok (.iload_n 1, 1) := do_1b DL_symbol_2
theorem dL_symbol_3 : decode cL_symbol 3 = .ok (.iload_n 2, 1) := do_1c DL_symbol_3
theorem dL_symbol_4 : decode cL_symbol 4 = .ok (.invokevirtual 156, 3) := do_b6 DL_symbol_4
theorem dL_symbol_7 : decode cL_symbol 7 = .ok (.i2l, 1) := do_85 DL_symbol_7
theorem dL_symbol_8 : decode cL_symbol 8 = .ok (.putfield 13, 3) := do_b5 DL_symbol_8
theorem dL_symbol_11 : decode cL_symbol 11 = .ok (.goto 11, 3) := do_a7 DL_symbol_11 (by decide +kernel)
theorem dL_symbol_14 : decode cL_symbol 14 = .ok (.astore 4, 2) := do_3a DL_symbol_14
theorem dL_symbol_16 : decode cL_symbol 16 = .ok (.iconst 1, 1) := do_04 DL_symbol_16
theorem dL_symbol_17 : decode cL_symbol 17 = .ok (.ireturn, 1) := do_ac DL_symbol_17
theorem dL_symbol_18 : decode cL_symbol 18 = .ok (.astore 4, 2) := do_3a DL_symbol_18
theorem dL_symbol_20 : decode cL_symbol 20 = .ok (.iconst 2, 1) := do_05 DL_symbol_20
theorem dL_symbol_21 : decode cL_symbol 21 = .ok (.ireturn, 1) := do_ac DL_symbol_21
theorem dL_symbol_22 : decode cL_symbol 22 = .ok (.iconst 0, 1) := do_03 DL_symbol_22
theorem dL_symbol_23 : decode cL_symbol 23 = .ok (.ireturn, 1) := do_ac DL_symbol_23
def TL_inverse_24 : List UInt8 := []
def TL_inverse_23 : List UInt8 := 172 :: TL_inverse_24
def TL_inverse_22 : List UInt8 := 3 :: TL_inverse_23
def TL_inverse_21 : List UInt8 := 172 :: TL_inverse_22
def TL_inverse_20 : List UInt8 := 5 :: TL_inverse_21
def TL_inverse_18 : List UInt8 := 58 :: 4 :: TL_inverse_20
def TL_inverse_17 : List UInt8 := 172 :: TL_inverse_18
def TL_inverse_16 : List UInt8 := 4 :: TL_inverse_17
def TL_inverse_14 : List UInt8 := 58 :: 4 :: TL_inverse_16
def TL_inverse_11 : List UInt8 := 167 :: 0 :: 11 :: TL_inverse_14
def TL_inverse_8 : List UInt8 := 181 :: 0 :: 13 :: TL_inverse_11
def TL_inverse_7 : List UInt8 := 133 :: TL_inverse_8
def TL_inverse_4 : List UInt8 := 182 :: 0 :: 159 :: TL_inverse_7
def TL_inverse_3 : List UInt8 := 28 :: TL_inverse_4
def TL_inverse_2 : List UInt8 := 27 :: TL_inverse_3
def TL_inverse_1 : List UInt8 := 42 :: TL_inverse_2
def TL_inverse_0 : List UInt8 := 45 :: TL_inverse_1
theorem DL_inverse_0 : cL_inverse.data.toList.drop 0 = TL_inverse_0 := by decide +kernel
theorem DL_inverse_1 : cL_inverse.data.toList.drop 1 = TL_inverse_1 := dr1 DL_inverse_0
theorem DL_inverse_2 : cL_inverse.data.toList.drop 2 = TL_inverse_2 := dr1 DL_inverse_1
theorem DL_inverse_3 : cL_inverse.data.toList.drop 3 = TL_inverse_3 := dr1 DL_inverse_2
theorem DL_inverse_4 : cL_inverse.data.toList.drop 4 = TL_inverse_4 := dr1 DL_inverse_3
theorem DL_inverse_7 : cL_inverse.data.toList.drop 7 = TL_inverse_7 := dr3 DL_inverse_4
theorem DL_inverse_8 : cL_inverse.data.toList.drop 8 = TL_inverse_8 := dr1 DL_inverse_7
theorem DL_inverse_11 : cL_inverse.data.toList.drop 11 = TL_inverse_11 := dr3 DL_inverse_8
theorem DL_inverse_14 : cL_inverse.data.toList.drop 14 = TL_inverse_14 := dr3 DL_inverse_11
theorem DL_inverse_16 : cL_inverse.data.toList.drop 16 = TL_inverse_16 := dr2 DL_inverse_14
theorem DL_inverse_17 : cL_inverse.data.toList.drop 17 = TL_inverse_17 := dr1 DL_inverse_16
theorem DL_inverse_18 : cL_inverse.data.toList.drop 18 = TL_inverse_18 := dr1 DL_inverse_17
theorem DL_inverse_20 : cL_inverse.data.toList.drop 20 = TL_inverse_20 := dr2 DL_inverse_18
theorem DL_inverse_21 : cL_inverse.data.toList.drop 21 = TL_inverse_21 := dr1 DL_inverse_20
theorem DL_inverse_22 : cL_inverse.data.toList.drop 22 = TL_inverse_22 := dr1 DL_inverse_21
theorem DL_inverse_23 : cL_inverse.data.toList.drop 23 = TL_inverse_23 := dr1 DL_inverse_22
theorem dL_inverse_0 : decode cL_inverse 0 = .ok (.aload_n 3, 1) := do_2d DL_inverse_0
theorem dL_inverse_1 : decode cL_inverse 1 = .ok (.aload_n 0, 1) := do_2a DL_inverse_1
theorem dL_inverse_2 : decode cL_inverse 2 = .ok (.iload_n 1, 1) := do_1b DL_inverse_2
theorem dL_inverse_3 : decode cL_inverse 3 = .ok (.iload_n 2, 1) := do_1c DL_inverse_3
theorem dL_inverse_4 : decode cL_inverse 4 = .ok (.invokevirtual 159, 3) := do_b6 DL_inverse_4
theorem dL_inverse_7 : decode cL_inverse 7 = .ok (.i2l, 1) := do_85 DL_inverse_7
theorem dL_inverse_8 : decode cL_inverse 8 = .ok (.putfield 13, 3) := do_b5 DL_inverse_8
theorem dL_inverse_11 : decode cL_inverse 11 = .ok (.goto 11, 3) := do_a7 DL_inverse_11 (by decide +kernel)
theorem dL_inverse_14 : decode cL_inverse 14 = .ok (.astore 4, 2) := do_3a DL_inverse_14
theorem dL_inverse_16 : decode cL_inverse 16 = .ok (.iconst 1, 1) := do_04 DL_inverse_16
theorem dL_inverse_17 : decode cL_inverse 17 = .ok (.ireturn, 1) := do_ac DL_inverse_17
theorem dL_inverse_18 : decode cL_inverse 18 = .ok (.astore 4, 2) := do_3a DL_inverse_18
theorem dL_inverse_20 : decode cL_inverse 20 = .ok (.iconst 2, 1) := do_05 DL_inverse_20
theorem dL_inverse_21 : decode cL_inverse 21 = .ok (.ireturn, 1) := do_ac DL_inverse_21
theorem dL_inverse_22 : decode cL_inverse 22 = .ok (.iconst 0, 1) := do_03 DL_inverse_22
theorem dL_inverse_23 : decode cL_inverse 23 = .ok (.ireturn, 1) := do_ac DL_inverse_23
def TL_isPrime_25 : List UInt8 := []
def TL_isPrime_24 : List UInt8 := 172 :: TL_isPrime_25
def TL_isPrime_23 : List UInt8 := 3 :: TL_isPrime_24
def TL_isPrime_22 : List UInt8 := 172 :: TL_isPrime_23
def TL_isPrime_21 : List UInt8 := 4 :: TL_isPrime_22
def TL_isPrime_20 : List UInt8 := 78 :: TL_isPrime_21
def TL_isPrime_17 : List UInt8 := 167 :: 0 :: 6 :: TL_isPrime_20
def TL_isPrime_14 : List UInt8 := 181 :: 0 :: 13 :: TL_isPrime_17
def TL_isPrime_13 : List UInt8 := 9 :: TL_isPrime_14
def TL_isPrime_10 : List UInt8 := 167 :: 0 :: 4 :: TL_isPrime_13
def TL_isPrime_9 : List UInt8 := 10 :: TL_isPrime_10
def TL_isPrime_6 : List UInt8 := 153 :: 0 :: 7 :: TL_isPrime_9
def TL_isPrime_3 : List UInt8 := 182 :: 0 :: 162 :: TL_isPrime_6
def TL_isPrime_2 : List UInt8 := 27 :: TL_isPrime_3
def TL_isPrime_1 : List UInt8 := 42 :: TL_isPrime_2
def TL_isPrime_0 : List UInt8 := 44 :: TL_isPrime_1
theorem DL_isPrime_0 : cL_isPrime.data.toList.drop 0 = TL_isPrime_0 := by decide +kernel
theorem DL_isPrime_1 : cL_isPrime.data.toList.drop 1 = TL_isPrime_1 := dr1 DL_isPrime_0
theorem DL_isPrime_2 : cL_isPrime.data.toList.drop 2 = TL_isPrime_2 := dr1 DL_isPrime_1
theorem DL_isPrime_3 : cL_isPrime.data.toList.drop 3 = TL_isPrime_3 := dr1 DL_isPrime_2
theorem DL_isPrime_6 : cL_isPrime.data.toList.drop 6 = TL_isPrime_6 := dr3 DL_isPrime_3
theorem DL_isPrime_9 : cL_isPrime.data.toList.drop 9 = TL_isPrime_9 := dr3 DL_isPrime_6
theorem DL_isPrime_10 : cL_isPrime.data.toList.drop 10 = TL_isPrime_10 := dr1 DL_isPrime_9
theorem DL_isPrime_13 : cL_isPrime.data.toList.drop 13 = TL_isPrime_13 := dr3 DL_isPrime_10
theorem DL_isPrime_14 : cL_isPrime.data.toList.drop 14 = TL_isPrime_14 := dr1 DL_isPrime_13
theorem DL_isPrime_17 : cL_isPrime.data.toList.drop 17 = TL_isPrime_17 := dr3 DL_isPrime_14
theorem DL_isPrime_20 : cL_isPrime.data.toList.drop 20 = TL_isPrime_20 := dr3 DL_isPrime_17
theorem DL_isPrime_21 : cL_isPrime.data.toList.drop 21 = TL_isPrime_21 := dr1 DL_isPrime_20
theorem DL_isPrime_22 : cL_isPrime.data.toList.drop 22 = TL_isPrime_22 := dr1 DL_isPrime_21
theorem DL_isPrime_23 : cL_isPrime.data.toList.drop 23 = TL_isPrime_23 := dr1 DL_isPrime_22
theorem DL_isPrime_24 : cL_isPrime.data.toList.drop 24 = TL_isPrime_24 := dr1 DL_isPrime_23
theorem dL_isPrime_0 : decode cL_isPrime 0 = .ok (.aload_n 2, 1) := do_2c DL_isPrime_0
theorem dL_isPrime_1 : decode cL_isPrime 1 = .ok (.aload_n 0, 1) := do_2a DL_isPrime_1
theorem dL_isPrime_2 : decode cL_isPrime 2 = .ok (.iload_n 1, 1) := do_1b DL_isPrime_2
theorem dL_isPrime_3 : decode cL_isPrime 3 = .ok (.invokevirtual 162, 3) := do_b6 DL_isPrime_3
theorem dL_isPrime_6 : decode cL_isPrime 6 = .ok (.ifCond .eq 7, 3) := do_99 DL_isPrime_6 (by decide +kernel)
theorem dL_isPrime_9 : decode cL_isPrime 9 = .ok (.lconst 1, 1) := do_0a DL_isPrime_9
theorem dL_isPrime_10 : decode cL_isPrime 10 = .ok (.goto 4, 3) := do_a7 DL_isPrime_10 (by decide +kernel)
theorem dL_isPrime_13 : decode cL_isPrime 13 = .ok (.lconst 0, 1) := do_09 DL_isPrime_13
theorem dL_isPrime_14 : decode cL_isPrime 14 = .ok (.putfield 13, 3) := do_b5 DL_isPrime_14
theorem dL_isPrime_17 : decode cL_isPrime 17 = .ok (.goto 6, 3) := do_a7 DL_isPrime_17 (by decide +kernel)
theorem dL_isPrime_20 : decode cL_isPrime 20 = .ok (.astore_n 3, 1) := do_4e DL_isPrime_20
theorem dL_isPrime_21 : decode cL_isPrime 21 = .ok (.iconst 1, 1) := do_04 DL_isPrime_21
theorem dL_isPrime_22 : decode cL_isPrime 22 = .ok (.ireturn, 1) := do_ac DL_isPrime_22
theorem dL_isPrime_23 : decode cL_isPrime 23 = .ok (.iconst 0, 1) := do_03 DL_isPrime_23
theorem dL_isPrime_24 : decode cL_isPrime 24 = .ok (.ireturn, 1) := do_ac DL_isPrime_24
def TL_house_18 : List UInt8 := []
def TL_house_17 : List UInt8 := 172 :: TL_house_18
def TL_house_16 : List UInt8 := 3 :: TL_house_17
def TL_house_15 : List UInt8 := 172 :: TL_house_16
def TL_house_14 : List UInt8 := 4 :: TL_house_15
def TL_house_13 : List UInt8 := 78 :: TL_house_14
def TL_house_10 : List UInt8 := 167 :: 0 :: 6 :: TL_house_13
def TL_house_7 : List UInt8 := 181 :: 0 :: 13 :: TL_house_10
def TL_house_6 : List UInt8 := 133 :: TL_house_7
def TL_house_3 : List UInt8 := 182 :: 0 :: 166 :: TL_house_6
def TL_house_2 : List UInt8 := 27 :: TL_house_3
def TL_house_1 : List UInt8 := 42 :: TL_house_2
def TL_house_0 : List UInt8 := 44 :: TL_house_1
theorem DL_house_0 : cL_house.data.toList.drop 0 = TL_house_0 := by decide +kernel
theorem DL_house_1 : cL_house.data.toList.drop 1 = TL_house_1 := dr1 DL_house_0
theorem DL_house_2 : cL_house.data.toList.drop 2 = TL_house_2 := dr1 DL_house_1
theorem DL_house_3 : cL_house.data.toList.drop 3 = TL_house_3 := dr1 DL_house_2
theorem DL_house_6 : cL_house.data.toList.drop 6 = TL_house_6 := dr3 DL_house_3
theorem DL_house_7 : cL_house.data.toList.drop 7 = TL_house_7 := dr1 DL_house_6
theorem DL_house_10 : cL_house.data.toList.drop 10 = TL_house_10 := dr3 DL_house_7
theorem DL_house_13 : cL_house.data.toList.drop 13 = TL_house_13 := dr3 DL_house_10
theorem DL_house_14 : cL_house.data.toList.drop 14 = TL_house_14 := dr1 DL_house_13
theorem DL_house_15 : cL_house.data.toList.drop 15 = TL_house_15 := dr1 DL_house_14
theorem DL_house_16 : cL_house.data.toList.drop 16 = TL_house_16 := dr1 DL_house_15
theorem DL_house_17 : cL_house.data.toList.drop 17 = TL_house_17 := dr1 DL_house_16
theorem dL_house_0 : decode cL_house 0 = .ok (.aload_n 2, 1) := do_2c DL_house_0
theorem dL_house_1 : decode cL_house 1 = .ok (.aload_n 0, 1) := do_2a DL_house_1
theorem dL_house_2 : decode cL_house 2 = .ok (.iload_n 1, 1) := do_1b DL_house_2
theorem dL_house_3 : decode cL_house 3 = .ok (.invokevirtual 166, 3) := do_b6 DL_house_3
theorem dL_house_6 : decode cL_house 6 = .ok (.i2l, 1) := do_85 DL_house_6
theorem dL_house_7 : decode cL_house 7 = .ok (.putfield 13, 3) := do_b5 DL_house_7
theorem dL_house_10 : decode cL_house 10 = .ok (.goto 6, 3) := do_a7 DL_house_10 (by decide +kernel)
theorem dL_house_13 : decode cL_house 13 = .ok (.astore_n 3, 1) := do_4e DL_house_13
theorem dL_house_14 : decode cL_house 14 = .ok (.iconst 1, 1) := do_04 DL_house_14
theorem dL_house_15 : decode cL_house 15 = .ok (.ireturn, 1) := do_ac DL_house_15
theorem dL_house_16 : decode cL_house 16 = .ok (.iconst 0, 1) := do_03 DL_house_16
theorem dL_house_17 : decode cL_house 17 = .ok (.ireturn, 1) := do_ac DL_house_17
def TL_law_2221 : List UInt8 := []
def TL_law_2220 : List UInt8 := 172 :: TL_law_2221
def TL_law_2219 : List UInt8 := 4 :: TL_law_2220
def TL_law_2216 : List UInt8 := 167 :: 247 :: 115 :: TL_law_2219
def TL_law_2213 : List UInt8 := 132 :: 4 :: 5 :: TL_law_2216
def TL_law_2210 : List UInt8 := 167 :: 0 :: 3 :: TL_law_2213
def TL_law_2209 : List UInt8 := 88 :: TL_law_2210
def TL_law_2206 : List UInt8 := 182 :: 1 :: 81 :: TL_law_2209
def TL_law_2205 : List UInt8 := 44 :: TL_law_2206
def TL_law_2204 : List UInt8 := 88 :: TL_law_2205
def TL_law_2201 : List UInt8 := 182 :: 1 :: 77 :: TL_law_2204
def TL_law_2200 : List UInt8 := 43 :: TL_law_2201
def TL_law_2197 : List UInt8 := 167 :: 0 :: 16 :: TL_law_2200
def TL_law_2196 : List UInt8 := 87 :: TL_law_2197
def TL_law_2193 : List UInt8 := 182 :: 1 :: 76 :: TL_law_2196
def TL_law_2192 : List UInt8 := 44 :: TL_law_2193
def TL_law_2191 : List UInt8 := 87 :: TL_law_2192
def TL_law_2188 : List UInt8 := 182 :: 1 :: 72 :: TL_law_2191
def TL_law_2187 : List UInt8 := 43 :: TL_law_2188
def TL_law_2184 : List UInt8 := 167 :: 0 :: 29 :: TL_law_2187
def TL_law_2183 : List UInt8 := 87 :: TL_law_2184
def TL_law_2180 : List UInt8 := 182 :: 1 :: 71 :: TL_law_2183
def TL_law_2179 : List UInt8 := 44 :: TL_law_2180
def TL_law_2178 : List UInt8 := 87 :: TL_law_2179
def TL_law_2175 : List UInt8 := 182 :: 1 :: 68 :: TL_law_2178
def TL_law_2174 : List UInt8 := 43 :: TL_law_2175
def TL_law_2171 : List UInt8 := 167 :: 0 :: 42 :: TL_law_2174
def TL_law_2169 : List UInt8 := 54 :: 6 :: TL_law_2171
def TL_law_2166 : List UInt8 := 182 :: 1 :: 67 :: TL_law_2169
def TL_law_2165 : List UInt8 := 46 :: TL_law_2166
def TL_law_2164 : List UInt8 := 96 :: TL_law_2165
def TL_law_2163 : List UInt8 := 4 :: TL_law_2164
def TL_law_2161 : List UInt8 := 21 :: 4 :: TL_law_2163
def TL_law_2160 : List UInt8 := 42 :: TL_law_2161
def TL_law_2159 : List UInt8 := 44 :: TL_law_2160
def TL_law_2157 : List UInt8 := 54 :: 5 :: TL_law_2159
def TL_law_2154 : List UInt8 := 184 :: 1 :: 65 :: TL_law_2157
def TL_law_2153 : List UInt8 := 45 :: TL_law_2154
def TL_law_2152 : List UInt8 := 46 :: TL_law_2153
def TL_law_2151 : List UInt8 := 96 :: TL_law_2152
def TL_law_2150 : List UInt8 := 4 :: TL_law_2151
def TL_law_2148 : List UInt8 := 21 :: 4 :: TL_law_2150
def TL_law_2147 : List UInt8 := 42 :: TL_law_2148
def TL_law_2146 : List UInt8 := 43 :: TL_law_2147
def TL_law_2143 : List UInt8 := 167 :: 0 :: 70 :: TL_law_2146
def TL_law_2141 : List UInt8 := 54 :: 6 :: TL_law_2143
def TL_law_2138 : List UInt8 := 182 :: 1 :: 64 :: TL_law_2141
def TL_law_2137 : List UInt8 := 46 :: TL_law_2138
def TL_law_2136 : List UInt8 := 96 :: TL_law_2137
def TL_law_2135 : List UInt8 := 4 :: TL_law_2136
def TL_law_2133 : List UInt8 := 21 :: 4 :: TL_law_2135
def TL_law_2132 : List UInt8 := 42 :: TL_law_2133
def TL_law_2131 : List UInt8 := 44 :: TL_law_2132
def TL_law_2129 : List UInt8 := 54 :: 5 :: TL_law_2131
def TL_law_2126 : List UInt8 := 184 :: 1 :: 62 :: TL_law_2129
def TL_law_2125 : List UInt8 := 45 :: TL_law_2126
def TL_law_2124 : List UInt8 := 46 :: TL_law_2125
def TL_law_2123 : List UInt8 := 96 :: TL_law_2124
def TL_law_2122 : List UInt8 := 4 :: TL_law_2123
def TL_law_2120 : List UInt8 := 21 :: 4 :: TL_law_2122
def TL_law_2119 : List UInt8 := 42 :: TL_law_2120
def TL_law_2118 : List UInt8 := 43 :: TL_law_2119
def TL_law_2115 : List UInt8 := 167 :: 0 :: 98 :: TL_law_2118
def TL_law_2113 : List UInt8 := 54 :: 6 :: TL_law_2115
def TL_law_2110 : List UInt8 := 182 :: 1 :: 61 :: TL_law_2113
def TL_law_2109 : List UInt8 := 46 :: TL_law_2110
def TL_law_2108 : List UInt8 := 96 :: TL_law_2109
def TL_law_2107 : List UInt8 := 5 :: TL_law_2108
def TL_law_2105 : List UInt8 := 21 :: 4 :: TL_law_2107
def TL_law_2104 : List UInt8 := 42 :: TL_law_2105
def TL_law_2103 : List UInt8 := 46 :: TL_law_2104
def TL_law_2102 : List UInt8 := 96 :: TL_law_2103
def TL_law_2101 : List UInt8 := 4 :: TL_law_2102
def TL_law_2099 : List UInt8 := 21 :: 4 :: TL_law_2101
def TL_law_2098 : List UInt8 := 42 :: TL_law_2099
def TL_law_2097 : List UInt8 := 44 :: TL_law_2098
def TL_law_2095 : List UInt8 := 54 :: 5 :: TL_law_2097
def TL_law_2092 : List UInt8 := 184 :: 1 :: 59 :: TL_law_2095
def TL_law_2091 : List UInt8 := 45 :: TL_law_2092
def TL_law_2090 : List UInt8 := 46 :: TL_law_2091
def TL_law_2089 : List UInt8 := 96 :: TL_law_2090
def TL_law_2088 : List UInt8 := 5 :: TL_law_2089
def TL_law_2086 : List UInt8 := 21 :: 4 :: TL_law_2088
def TL_law_2085 : List UInt8 := 42 :: TL_law_2086
def TL_law_2084 : List UInt8 := 46 :: TL_law_2085
def TL_law_2083 : List UInt8 := 96 :: TL_law_2084
def TL_law_2082 : List UInt8 := 4 :: TL_law_2083
def TL_law_2080 : List UInt8 := 21 :: 4 :: TL_law_2082
def TL_law_2079 : List UInt8 := 42 :: TL_law_2080
def TL_law_2078 : List UInt8 := 43 :: TL_law_2079
def TL_law_2075 : List UInt8 := 167 :: 0 :: 138 :: TL_law_2078
def TL_law_2073 : List UInt8 := 54 :: 6 :: TL_law_2075
def TL_law_2070 : List UInt8 := 182 :: 1 :: 58 :: TL_law_2073
def TL_law_2069 : List UInt8 := 46 :: TL_law_2070
def TL_law_2068 : List UInt8 := 96 :: TL_law_2069
def TL_law_2067 : List UInt8 := 5 :: TL_law_2068
def TL_law_2065 : List UInt8 := 21 :: 4 :: TL_law_2067
def TL_law_2064 : List UInt8 := 42 :: TL_law_2065
def TL_law_2063 : List UInt8 := 46 :: TL_law_2064
def TL_law_2062 : List UInt8 := 96 :: TL_law_2063
def TL_law_2061 : List UInt8 := 4 :: TL_law_2062
def TL_law_2059 : List UInt8 := 21 :: 4 :: TL_law_2061
def TL_law_2058 : List UInt8 := 42 :: TL_law_2059
def TL_law_2057 : List UInt8 := 44 :: TL_law_2058
def TL_law_2055 : List UInt8 := 54 :: 5 :: TL_law_2057
def TL_law_2052 : List UInt8 := 184 :: 1 :: 56 :: TL_law_2055
def TL_law_2051 : List UInt8 := 45 :: TL_law_2052
def TL_law_2050 : List UInt8 := 46 :: TL_law_2051
def TL_law_2049 : List UInt8 := 96 :: TL_law_2050
def TL_law_2048 : List UInt8 := 5 :: TL_law_2049
def TL_law_2046 : List UInt8 := 21 :: 4 :: TL_law_2048
def TL_law_2045 : List UInt8 := 42 :: TL_law_2046
def TL_law_2044 : List UInt8 := 46 :: TL_law_2045
def TL_law_2043 : List UInt8 := 96 :: TL_law_2044
def TL_law_2042 : List UInt8 := 4 :: TL_law_2043
def TL_law_2040 : List UInt8 := 21 :: 4 :: TL_law_2042
def TL_law_2039 : List UInt8 := 42 :: TL_law_2040
def TL_law_2038 : List UInt8 := 43 :: TL_law_2039
def TL_law_2035 : List UInt8 := 167 :: 0 :: 178 :: TL_law_2038
def TL_law_2033 : List UInt8 := 58 :: 6 :: TL_law_2035
def TL_law_2030 : List UInt8 := 182 :: 1 :: 55 :: TL_law_2033
def TL_law_2029 : List UInt8 := 46 :: TL_law_2030
def TL_law_2028 : List UInt8 := 96 :: TL_law_2029
def TL_law_2027 : List UInt8 := 5 :: TL_law_2028
def TL_law_2025 : List UInt8 := 21 :: 4 :: TL_law_2027
def TL_law_2024 : List UInt8 := 42 :: TL_law_2025
def TL_law_2023 : List UInt8 := 46 :: TL_law_2024
def TL_law_2022 : List UInt8 := 96 :: TL_law_2023
def TL_law_2021 : List UInt8 := 4 :: TL_law_2022
def TL_law_2019 : List UInt8 := 21 :: 4 :: TL_law_2021
def TL_law_2018 : List UInt8 := 42 :: TL_law_2019
def TL_law_2017 : List UInt8 := 44 :: TL_law_2018
def TL_law_2015 : List UInt8 := 54 :: 5 :: TL_law_2017
def TL_law_2012 : List UInt8 := 184 :: 1 :: 53 :: TL_law_2015
def TL_law_2011 : List UInt8 := 45 :: TL_law_2012
def TL_law_2010 : List UInt8 := 46 :: TL_law_2011
def TL_law_2009 : List UInt8 := 96 :: TL_law_2010
def TL_law_2008 : List UInt8 := 5 :: TL_law_2009
def TL_law_2006 : List UInt8 := 21 :: 4 :: TL_law_2008
def TL_law_2005 : List UInt8 := 42 :: TL_law_2006
def TL_law_2004 : List UInt8 := 46 :: TL_law_2005
def TL_law_2003 : List UInt8 := 96 :: TL_law_2004
def TL_law_2002 : List UInt8 := 4 :: TL_law_2003
def TL_law_2000 : List UInt8 := 21 :: 4 :: TL_law_2002
def TL_law_1999 : List UInt8 := 42 :: TL_law_2000
def TL_law_1998 : List UInt8 := 43 :: TL_law_1999
def TL_law_1995 : List UInt8 := 167 :: 0 :: 218 :: TL_law_1998
def TL_law_1993 : List UInt8 := 58 :: 6 :: TL_law_1995
def TL_law_1990 : List UInt8 := 182 :: 1 :: 52 :: TL_law_1993
def TL_law_1989 : List UInt8 := 46 :: TL_law_1990
def TL_law_1988 : List UInt8 := 96 :: TL_law_1989
def TL_law_1987 : List UInt8 := 4 :: TL_law_1988
def TL_law_1985 : List UInt8 := 21 :: 4 :: TL_law_1987
def TL_law_1984 : List UInt8 := 42 :: TL_law_1985
def TL_law_1983 : List UInt8 := 44 :: TL_law_1984
def TL_law_1981 : List UInt8 := 54 :: 5 :: TL_law_1983
def TL_law_1978 : List UInt8 := 184 :: 1 :: 50 :: TL_law_1981
def TL_law_1977 : List UInt8 := 45 :: TL_law_1978
def TL_law_1976 : List UInt8 := 46 :: TL_law_1977
def TL_law_1975 : List UInt8 := 96 :: TL_law_1976
def TL_law_1974 : List UInt8 := 4 :: TL_law_1975
def TL_law_1972 : List UInt8 := 21 :: 4 :: TL_law_1974
def TL_law_1971 : List UInt8 := 42 :: TL_law_1972
def TL_law_1970 : List UInt8 := 43 :: TL_law_1971
def TL_law_1967 : List UInt8 := 167 :: 0 :: 246 :: TL_law_1970
def TL_law_1965 : List UInt8 := 54 :: 6 :: TL_law_1967
def TL_law_1962 : List UInt8 := 182 :: 1 :: 49 :: TL_law_1965
def TL_law_1961 : List UInt8 := 46 :: TL_law_1962
def TL_law_1960 : List UInt8 := 96 :: TL_law_1961
def TL_law_1959 : List UInt8 := 5 :: TL_law_1960
def TL_law_1957 : List UInt8 := 21 :: 4 :: TL_law_1959
def TL_law_1956 : List UInt8 := 42 :: TL_law_1957
def TL_law_1955 : List UInt8 := 46 :: TL_law_1956
def TL_law_1954 : List UInt8 := 96 :: TL_law_1955
def TL_law_1953 : List UInt8 := 4 :: TL_law_1954
def TL_law_1951 : List UInt8 := 21 :: 4 :: TL_law_1953
def TL_law_1950 : List UInt8 := 42 :: TL_law_1951
def TL_law_1949 : List UInt8 := 44 :: TL_law_1950
def TL_law_1947 : List UInt8 := 54 :: 5 :: TL_law_1949
def TL_law_1944 : List UInt8 := 184 :: 1 :: 47 :: TL_law_1947
def TL_law_1943 : List UInt8 := 45 :: TL_law_1944
def TL_law_1942 : List UInt8 := 46 :: TL_law_1943
def TL_law_1941 : List UInt8 := 96 :: TL_law_1942
def TL_law_1940 : List UInt8 := 5 :: TL_law_1941
def TL_law_1938 : List UInt8 := 21 :: 4 :: TL_law_1940
def TL_law_1937 : List UInt8 := 42 :: TL_law_1938
def TL_law_1936 : List UInt8 := 46 :: TL_law_1937
def TL_law_1935 : List UInt8 := 96 :: TL_law_1936
def TL_law_1934 : List UInt8 := 4 :: TL_law_1935
def TL_law_1932 : List UInt8 := 21 :: 4 :: TL_law_1934
def TL_law_1931 : List UInt8 := 42 :: TL_law_1932
def TL_law_1930 : List UInt8 := 43 :: TL_law_1931
def TL_law_1927 : List UInt8 := 167 :: 1 :: 30 :: TL_law_1930
def TL_law_1925 : List UInt8 := 54 :: 6 :: TL_law_1927
def TL_law_1922 : List UInt8 := 182 :: 1 :: 46 :: TL_law_1925
def TL_law_1921 : List UInt8 := 46 :: TL_law_1922
def TL_law_1920 : List UInt8 := 96 :: TL_law_1921
def TL_law_1919 : List UInt8 := 4 :: TL_law_1920
def TL_law_1917 : List UInt8 := 21 :: 4 :: TL_law_1919
def TL_law_1916 : List UInt8 := 42 :: TL_law_1917
def TL_law_1915 : List UInt8 := 44 :: TL_law_1916
def TL_law_1913 : List UInt8 := 54 :: 5 :: TL_law_1915
def TL_law_1910 : List UInt8 := 184 :: 1 :: 44 :: TL_law_1913
def TL_law_1909 : List UInt8 := 45 :: TL_law_1910
def TL_law_1908 : List UInt8 := 46 :: TL_law_1909
def TL_law_1907 : List UInt8 := 96 :: TL_law_1908
def TL_law_1906 : List UInt8 := 4 :: TL_law_1907
def TL_law_1904 : List UInt8 := 21 :: 4 :: TL_law_1906
def TL_law_1903 : List UInt8 := 42 :: TL_law_1904
def TL_law_1902 : List UInt8 := 43 :: TL_law_1903
def TL_law_1899 : List UInt8 := 167 :: 1 :: 58 :: TL_law_1902
def TL_law_1897 : List UInt8 := 54 :: 6 :: TL_law_1899
def TL_law_1894 : List UInt8 := 182 :: 1 :: 43 :: TL_law_1897
def TL_law_1893 : List UInt8 := 46 :: TL_law_1894
def TL_law_1892 : List UInt8 := 96 :: TL_law_1893
def TL_law_1891 : List UInt8 := 4 :: TL_law_1892
def TL_law_1889 : List UInt8 := 21 :: 4 :: TL_law_1891
def TL_law_1888 : List UInt8 := 42 :: TL_law_1889
def TL_law_1887 : List UInt8 := 44 :: TL_law_1888
def TL_law_1885 : List UInt8 := 54 :: 5 :: TL_law_1887
def TL_law_1882 : List UInt8 := 184 :: 1 :: 41 :: TL_law_1885
def TL_law_1881 : List UInt8 := 45 :: TL_law_1882
def TL_law_1880 : List UInt8 := 46 :: TL_law_1881
def TL_law_1879 : List UInt8 := 96 :: TL_law_1880
def TL_law_1878 : List UInt8 := 4 :: TL_law_1879
def TL_law_1876 : List UInt8 := 21 :: 4 :: TL_law_1878
def TL_law_1875 : List UInt8 := 42 :: TL_law_1876
def TL_law_1874 : List UInt8 := 43 :: TL_law_1875
def TL_law_1871 : List UInt8 := 167 :: 1 :: 86 :: TL_law_1874
def TL_law_1869 : List UInt8 := 54 :: 6 :: TL_law_1871
def TL_law_1866 : List UInt8 := 182 :: 1 :: 40 :: TL_law_1869
def TL_law_1865 : List UInt8 := 46 :: TL_law_1866
def TL_law_1864 : List UInt8 := 96 :: TL_law_1865
def TL_law_1863 : List UInt8 := 5 :: TL_law_1864
def TL_law_1861 : List UInt8 := 21 :: 4 :: TL_law_1863
def TL_law_1860 : List UInt8 := 42 :: TL_law_1861
def TL_law_1859 : List UInt8 := 46 :: TL_law_1860
def TL_law_1858 : List UInt8 := 96 :: TL_law_1859
def TL_law_1857 : List UInt8 := 4 :: TL_law_1858
def TL_law_1855 : List UInt8 := 21 :: 4 :: TL_law_1857
def TL_law_1854 : List UInt8 := 42 :: TL_law_1855
def TL_law_1853 : List UInt8 := 44 :: TL_law_1854
def TL_law_1851 : List UInt8 := 54 :: 5 :: TL_law_1853
def TL_law_1848 : List UInt8 := 184 :: 1 :: 38 :: TL_law_1851
def TL_law_1847 : List UInt8 := 45 :: TL_law_1848
def TL_law_1846 : List UInt8 := 46 :: TL_law_1847
def TL_law_1845 : List UInt8 := 96 :: TL_law_1846
def TL_law_1844 : List UInt8 := 5 :: TL_law_1845
def TL_law_1842 : List UInt8 := 21 :: 4 :: TL_law_1844
def TL_law_1841 : List UInt8 := 42 :: TL_law_1842
def TL_law_1840 : List UInt8 := 46 :: TL_law_1841
def TL_law_1839 : List UInt8 := 96 :: TL_law_1840
def TL_law_1838 : List UInt8 := 4 :: TL_law_1839
def TL_law_1836 : List UInt8 := 21 :: 4 :: TL_law_1838
def TL_law_1835 : List UInt8 := 42 :: TL_law_1836
def TL_law_1834 : List UInt8 := 43 :: TL_law_1835
def TL_law_1831 : List UInt8 := 167 :: 1 :: 126 :: TL_law_1834
def TL_law_1830 : List UInt8 := 87 :: TL_law_1831
def TL_law_1827 : List UInt8 := 182 :: 1 :: 37 :: TL_law_1830
def TL_law_1826 : List UInt8 := 3 :: TL_law_1827
def TL_law_1823 : List UInt8 := 167 :: 0 :: 4 :: TL_law_1826
def TL_law_1822 : List UInt8 := 4 :: TL_law_1823
def TL_law_1819 : List UInt8 := 153 :: 0 :: 7 :: TL_law_1822
def TL_law_1818 : List UInt8 := 46 :: TL_law_1819
def TL_law_1817 : List UInt8 := 96 :: TL_law_1818
def TL_law_1816 : List UInt8 := 5 :: TL_law_1817
def TL_law_1814 : List UInt8 := 21 :: 4 :: TL_law_1816
def TL_law_1813 : List UInt8 := 42 :: TL_law_1814
def TL_law_1812 : List UInt8 := 3 :: TL_law_1813
def TL_law_1809 : List UInt8 := 167 :: 0 :: 4 :: TL_law_1812
def TL_law_1808 : List UInt8 := 4 :: TL_law_1809
def TL_law_1805 : List UInt8 := 153 :: 0 :: 7 :: TL_law_1808
def TL_law_1804 : List UInt8 := 46 :: TL_law_1805
def TL_law_1803 : List UInt8 := 96 :: TL_law_1804
def TL_law_1802 : List UInt8 := 4 :: TL_law_1803
def TL_law_1800 : List UInt8 := 21 :: 4 :: TL_law_1802
def TL_law_1799 : List UInt8 := 42 :: TL_law_1800
def TL_law_1798 : List UInt8 := 44 :: TL_law_1799
def TL_law_1797 : List UInt8 := 87 :: TL_law_1798
def TL_law_1794 : List UInt8 := 182 :: 1 :: 33 :: TL_law_1797
def TL_law_1793 : List UInt8 := 3 :: TL_law_1794
def TL_law_1790 : List UInt8 := 167 :: 0 :: 4 :: TL_law_1793
def TL_law_1789 : List UInt8 := 4 :: TL_law_1790
def TL_law_1786 : List UInt8 := 153 :: 0 :: 7 :: TL_law_1789
def TL_law_1785 : List UInt8 := 46 :: TL_law_1786
def TL_law_1784 : List UInt8 := 96 :: TL_law_1785
def TL_law_1783 : List UInt8 := 5 :: TL_law_1784
def TL_law_1781 : List UInt8 := 21 :: 4 :: TL_law_1783
def TL_law_1780 : List UInt8 := 42 :: TL_law_1781
def TL_law_1779 : List UInt8 := 3 :: TL_law_1780
def TL_law_1776 : List UInt8 := 167 :: 0 :: 4 :: TL_law_1779
def TL_law_1775 : List UInt8 := 4 :: TL_law_1776
def TL_law_1772 : List UInt8 := 153 :: 0 :: 7 :: TL_law_1775
def TL_law_1771 : List UInt8 := 46 :: TL_law_1772
def TL_law_1770 : List UInt8 := 96 :: TL_law_1771
def TL_law_1769 : List UInt8 := 4 :: TL_law_1770
def TL_law_1767 : List UInt8 := 21 :: 4 :: TL_law_1769
def TL_law_1766 : List UInt8 := 42 :: TL_law_1767
def TL_law_1765 : List UInt8 := 43 :: TL_law_1766
def TL_law_1762 : List UInt8 := 167 :: 1 :: 195 :: TL_law_1765
def TL_law_1760 : List UInt8 := 54 :: 6 :: TL_law_1762
def TL_law_1757 : List UInt8 := 182 :: 1 :: 32 :: TL_law_1760
def TL_law_1756 : List UInt8 := 46 :: TL_law_1757
def TL_law_1755 : List UInt8 := 96 :: TL_law_1756
def TL_law_1754 : List UInt8 := 5 :: TL_law_1755
def TL_law_1752 : List UInt8 := 21 :: 4 :: TL_law_1754
def TL_law_1751 : List UInt8 := 42 :: TL_law_1752
def TL_law_1750 : List UInt8 := 46 :: TL_law_1751
def TL_law_1749 : List UInt8 := 96 :: TL_law_1750
def TL_law_1748 : List UInt8 := 4 :: TL_law_1749
def TL_law_1746 : List UInt8 := 21 :: 4 :: TL_law_1748
def TL_law_1745 : List UInt8 := 42 :: TL_law_1746
def TL_law_1744 : List UInt8 := 44 :: TL_law_1745
def TL_law_1742 : List UInt8 := 54 :: 5 :: TL_law_1744
def TL_law_1739 : List UInt8 := 184 :: 1 :: 30 :: TL_law_1742
def TL_law_1738 : List UInt8 := 45 :: TL_law_1739
def TL_law_1737 : List UInt8 := 46 :: TL_law_1738
def TL_law_1736 : List UInt8 := 96 :: TL_law_1737
def TL_law_1735 : List UInt8 := 5 :: TL_law_1736
def TL_law_1733 : List UInt8 := 21 :: 4 :: TL_law_1735
def TL_law_1732 : List UInt8 := 42 :: TL_law_1733
def TL_law_1731 : List UInt8 := 46 :: TL_law_1732
def TL_law_1730 : List UInt8 := 96 :: TL_law_1731
def TL_law_1729 : List UInt8 := 4 :: TL_law_1730
def TL_law_1727 : List UInt8 := 21 :: 4 :: TL_law_1729
def TL_law_1726 : List UInt8 := 42 :: TL_law_1727
def TL_law_1725 : List UInt8 := 43 :: TL_law_1726
def TL_law_1722 : List UInt8 := 167 :: 1 :: 235 :: TL_law_1725
def TL_law_1720 : List UInt8 := 54 :: 6 :: TL_law_1722
def TL_law_1717 : List UInt8 := 182 :: 1 :: 29 :: TL_law_1720
def TL_law_1716 : List UInt8 := 3 :: TL_law_1717
def TL_law_1713 : List UInt8 := 167 :: 0 :: 4 :: TL_law_1716
def TL_law_1712 : List UInt8 := 4 :: TL_law_1713
def TL_law_1709 : List UInt8 := 153 :: 0 :: 7 :: TL_law_1712
def TL_law_1708 : List UInt8 := 46 :: TL_law_1709
def TL_law_1707 : List UInt8 := 96 :: TL_law_1708
def TL_law_1706 : List UInt8 := 6 :: TL_law_1707
def TL_law_1704 : List UInt8 := 21 :: 4 :: TL_law_1706
def TL_law_1703 : List UInt8 := 42 :: TL_law_1704
def TL_law_1702 : List UInt8 := 46 :: TL_law_1703
def TL_law_1701 : List UInt8 := 96 :: TL_law_1702
def TL_law_1700 : List UInt8 := 5 :: TL_law_1701
def TL_law_1698 : List UInt8 := 21 :: 4 :: TL_law_1700
def TL_law_1697 : List UInt8 := 42 :: TL_law_1698
def TL_law_1696 : List UInt8 := 46 :: TL_law_1697
def TL_law_1695 : List UInt8 := 96 :: TL_law_1696
def TL_law_1694 : List UInt8 := 4 :: TL_law_1695
def TL_law_1692 : List UInt8 := 21 :: 4 :: TL_law_1694
def TL_law_1691 : List UInt8 := 42 :: TL_law_1692
def TL_law_1690 : List UInt8 := 44 :: TL_law_1691
def TL_law_1688 : List UInt8 := 54 :: 5 :: TL_law_1690
def TL_law_1685 : List UInt8 := 184 :: 1 :: 26 :: TL_law_1688
def TL_law_1684 : List UInt8 := 45 :: TL_law_1685
def TL_law_1683 : List UInt8 := 3 :: TL_law_1684
def TL_law_1680 : List UInt8 := 167 :: 0 :: 4 :: TL_law_1683
def TL_law_1679 : List UInt8 := 4 :: TL_law_1680
def TL_law_1676 : List UInt8 := 153 :: 0 :: 7 :: TL_law_1679
def TL_law_1675 : List UInt8 := 46 :: TL_law_1676
def TL_law_1674 : List UInt8 := 96 :: TL_law_1675
def TL_law_1673 : List UInt8 := 6 :: TL_law_1674
def TL_law_1671 : List UInt8 := 21 :: 4 :: TL_law_1673
def TL_law_1670 : List UInt8 := 42 :: TL_law_1671
def TL_law_1669 : List UInt8 := 46 :: TL_law_1670
def TL_law_1668 : List UInt8 := 96 :: TL_law_1669
def TL_law_1667 : List UInt8 := 5 :: TL_law_1668
def TL_law_1665 : List UInt8 := 21 :: 4 :: TL_law_1667
def TL_law_1664 : List UInt8 := 42 :: TL_law_1665
def TL_law_1663 : List UInt8 := 46 :: TL_law_1664
def TL_law_1662 : List UInt8 := 96 :: TL_law_1663
def TL_law_1661 : List UInt8 := 4 :: TL_law_1662
def TL_law_1659 : List UInt8 := 21 :: 4 :: TL_law_1661
def TL_law_1658 : List UInt8 := 42 :: TL_law_1659
def TL_law_1657 : List UInt8 := 43 :: TL_law_1658
def TL_law_1654 : List UInt8 := 167 :: 2 :: 47 :: TL_law_1657
def TL_law_1652 : List UInt8 := 54 :: 6 :: TL_law_1654
def TL_law_1649 : List UInt8 := 182 :: 1 :: 25 :: TL_law_1652
def TL_law_1648 : List UInt8 := 46 :: TL_law_1649
def TL_law_1647 : List UInt8 := 96 :: TL_law_1648
def TL_law_1646 : List UInt8 := 4 :: TL_law_1647
def TL_law_1644 : List UInt8 := 21 :: 4 :: TL_law_1646
def TL_law_1643 : List UInt8 := 42 :: TL_law_1644
def TL_law_1642 : List UInt8 := 44 :: TL_law_1643
def TL_law_1640 : List UInt8 := 54 :: 5 :: TL_law_1642
def TL_law_1637 : List UInt8 := 184 :: 1 :: 23 :: TL_law_1640
def TL_law_1636 : List UInt8 := 45 :: TL_law_1637
def TL_law_1635 : List UInt8 := 46 :: TL_law_1636
def TL_law_1634 : List UInt8 := 96 :: TL_law_1635
def TL_law_1633 : List UInt8 := 4 :: TL_law_1634
def TL_law_1631 : List UInt8 := 21 :: 4 :: TL_law_1633
def TL_law_1630 : List UInt8 := 42 :: TL_law_1631
def TL_law_1629 : List UInt8 := 43 :: TL_law_1630
def TL_law_1626 : List UInt8 := 167 :: 2 :: 75 :: TL_law_1629
def TL_law_1624 : List UInt8 := 54 :: 6 :: TL_law_1626
def TL_law_1621 : List UInt8 := 182 :: 1 :: 22 :: TL_law_1624
def TL_law_1620 : List UInt8 := 46 :: TL_law_1621
def TL_law_1619 : List UInt8 := 96 :: TL_law_1620
def TL_law_1618 : List UInt8 := 6 :: TL_law_1619
def TL_law_1616 : List UInt8 := 21 :: 4 :: TL_law_1618
def TL_law_1615 : List UInt8 := 42 :: TL_law_1616
def TL_law_1614 : List UInt8 := 3 :: TL_law_1615
def TL_law_1611 : List UInt8 := 167 :: 0 :: 4 :: TL_law_1614
def TL_law_1610 : List UInt8 := 4 :: TL_law_1611
def TL_law_1607 : List UInt8 := 153 :: 0 :: 7 :: TL_law_1610
def TL_law_1606 : List UInt8 := 46 :: TL_law_1607
def TL_law_1605 : List UInt8 := 96 :: TL_law_1606
def TL_law_1604 : List UInt8 := 5 :: TL_law_1605
def TL_law_1602 : List UInt8 := 21 :: 4 :: TL_law_1604
def TL_law_1601 : List UInt8 := 42 :: TL_law_1602
def TL_law_1600 : List UInt8 := 46 :: TL_law_1601
def TL_law_1599 : List UInt8 := 96 :: TL_law_1600
def TL_law_1598 : List UInt8 := 4 :: TL_law_1599
def TL_law_1596 : List UInt8 := 21 :: 4 :: TL_law_1598
def TL_law_1595 : List UInt8 := 42 :: TL_law_1596
def TL_law_1594 : List UInt8 := 44 :: TL_law_1595
def TL_law_1592 : List UInt8 := 54 :: 5 :: TL_law_1594
def TL_law_1589 : List UInt8 := 184 :: 1 :: 20 :: TL_law_1592
def TL_law_1588 : List UInt8 := 45 :: TL_law_1589
def TL_law_1587 : List UInt8 := 46 :: TL_law_1588
def TL_law_1586 : List UInt8 := 96 :: TL_law_1587
def TL_law_1585 : List UInt8 := 6 :: TL_law_1586
def TL_law_1583 : List UInt8 := 21 :: 4 :: TL_law_1585
def TL_law_1582 : List UInt8 := 42 :: TL_law_1583
def TL_law_1581 : List UInt8 := 3 :: TL_law_1582
def TL_law_1578 : List UInt8 := 167 :: 0 :: 4 :: TL_law_1581
def TL_law_1577 : List UInt8 := 4 :: TL_law_1578
def TL_law_1574 : List UInt8 := 153 :: 0 :: 7 :: TL_law_1577
def TL_law_1573 : List UInt8 := 46 :: TL_law_1574
def TL_law_1572 : List UInt8 := 96 :: TL_law_1573
def TL_law_1571 : List UInt8 := 5 :: TL_law_1572
def TL_law_1569 : List UInt8 := 21 :: 4 :: TL_law_1571
def TL_law_1568 : List UInt8 := 42 :: TL_law_1569
def TL_law_1567 : List UInt8 := 46 :: TL_law_1568
def TL_law_1566 : List UInt8 := 96 :: TL_law_1567
def TL_law_1565 : List UInt8 := 4 :: TL_law_1566
def TL_law_1563 : List UInt8 := 21 :: 4 :: TL_law_1565
def TL_law_1562 : List UInt8 := 42 :: TL_law_1563
def TL_law_1561 : List UInt8 := 43 :: TL_law_1562
def TL_law_1558 : List UInt8 := 167 :: 2 :: 143 :: TL_law_1561
def TL_law_1556 : List UInt8 := 58 :: 6 :: TL_law_1558
def TL_law_1553 : List UInt8 := 182 :: 1 :: 19 :: TL_law_1556
def TL_law_1552 : List UInt8 := 46 :: TL_law_1553
def TL_law_1551 : List UInt8 := 96 :: TL_law_1552
def TL_law_1550 : List UInt8 := 4 :: TL_law_1551
def TL_law_1548 : List UInt8 := 21 :: 4 :: TL_law_1550
def TL_law_1547 : List UInt8 := 42 :: TL_law_1548
def TL_law_1546 : List UInt8 := 44 :: TL_law_1547
def TL_law_1544 : List UInt8 := 54 :: 5 :: TL_law_1546
def TL_law_1541 : List UInt8 := 184 :: 1 :: 17 :: TL_law_1544
def TL_law_1540 : List UInt8 := 45 :: TL_law_1541
def TL_law_1539 : List UInt8 := 46 :: TL_law_1540
def TL_law_1538 : List UInt8 := 96 :: TL_law_1539
def TL_law_1537 : List UInt8 := 4 :: TL_law_1538
def TL_law_1535 : List UInt8 := 21 :: 4 :: TL_law_1537
def TL_law_1534 : List UInt8 := 42 :: TL_law_1535
def TL_law_1533 : List UInt8 := 43 :: TL_law_1534
def TL_law_1530 : List UInt8 := 167 :: 2 :: 171 :: TL_law_1533
def TL_law_1528 : List UInt8 := 58 :: 6 :: TL_law_1530
def TL_law_1525 : List UInt8 := 182 :: 1 :: 16 :: TL_law_1528
def TL_law_1524 : List UInt8 := 3 :: TL_law_1525
def TL_law_1521 : List UInt8 := 167 :: 0 :: 4 :: TL_law_1524
def TL_law_1520 : List UInt8 := 4 :: TL_law_1521
def TL_law_1517 : List UInt8 := 153 :: 0 :: 7 :: TL_law_1520
def TL_law_1516 : List UInt8 := 46 :: TL_law_1517
def TL_law_1515 : List UInt8 := 96 :: TL_law_1516
def TL_law_1514 : List UInt8 := 5 :: TL_law_1515
def TL_law_1512 : List UInt8 := 21 :: 4 :: TL_law_1514
def TL_law_1511 : List UInt8 := 42 :: TL_law_1512
def TL_law_1510 : List UInt8 := 46 :: TL_law_1511
def TL_law_1509 : List UInt8 := 96 :: TL_law_1510
def TL_law_1508 : List UInt8 := 4 :: TL_law_1509
def TL_law_1506 : List UInt8 := 21 :: 4 :: TL_law_1508
def TL_law_1505 : List UInt8 := 42 :: TL_law_1506
def TL_law_1504 : List UInt8 := 44 :: TL_law_1505
def TL_law_1502 : List UInt8 := 54 :: 5 :: TL_law_1504
def TL_law_1499 : List UInt8 := 184 :: 1 :: 14 :: TL_law_1502
def TL_law_1498 : List UInt8 := 45 :: TL_law_1499
def TL_law_1497 : List UInt8 := 3 :: TL_law_1498
def TL_law_1494 : List UInt8 := 167 :: 0 :: 4 :: TL_law_1497
def TL_law_1493 : List UInt8 := 4 :: TL_law_1494
def TL_law_1490 : List UInt8 := 153 :: 0 :: 7 :: TL_law_1493
def TL_law_1489 : List UInt8 := 46 :: TL_law_1490
def TL_law_1488 : List UInt8 := 96 :: TL_law_1489
def TL_law_1487 : List UInt8 := 5 :: TL_law_1488
def TL_law_1485 : List UInt8 := 21 :: 4 :: TL_law_1487
def TL_law_1484 : List UInt8 := 42 :: TL_law_1485
def TL_law_1483 : List UInt8 := 46 :: TL_law_1484
def TL_law_1482 : List UInt8 := 96 :: TL_law_1483
def TL_law_1481 : List UInt8 := 4 :: TL_law_1482
def TL_law_1479 : List UInt8 := 21 :: 4 :: TL_law_1481
def TL_law_1478 : List UInt8 := 42 :: TL_law_1479
def TL_law_1477 : List UInt8 := 43 :: TL_law_1478
def TL_law_1474 : List UInt8 := 167 :: 2 :: 227 :: TL_law_1477
def TL_law_1472 : List UInt8 := 54 :: 6 :: TL_law_1474
def TL_law_1469 : List UInt8 := 182 :: 1 :: 13 :: TL_law_1472
def TL_law_1468 : List UInt8 := 46 :: TL_law_1469
def TL_law_1467 : List UInt8 := 96 :: TL_law_1468
def TL_law_1466 : List UInt8 := 4 :: TL_law_1467
def TL_law_1464 : List UInt8 := 21 :: 4 :: TL_law_1466
def TL_law_1463 : List UInt8 := 42 :: TL_law_1464
def TL_law_1462 : List UInt8 := 44 :: TL_law_1463
def TL_law_1460 : List UInt8 := 54 :: 5 :: TL_law_1462
def TL_law_1457 : List UInt8 := 184 :: 1 :: 11 :: TL_law_1460
def TL_law_1456 : List UInt8 := 45 :: TL_law_1457
def TL_law_1455 : List UInt8 := 46 :: TL_law_1456
def TL_law_1454 : List UInt8 := 96 :: TL_law_1455
def TL_law_1453 : List UInt8 := 4 :: TL_law_1454
def TL_law_1451 : List UInt8 := 21 :: 4 :: TL_law_1453
def TL_law_1450 : List UInt8 := 42 :: TL_law_1451
def TL_law_1449 : List UInt8 := 43 :: TL_law_1450
def TL_law_1446 : List UInt8 := 167 :: 2 :: 255 :: TL_law_1449
def TL_law_1444 : List UInt8 := 54 :: 6 :: TL_law_1446
def TL_law_1441 : List UInt8 := 182 :: 1 :: 10 :: TL_law_1444
def TL_law_1440 : List UInt8 := 46 :: TL_law_1441
def TL_law_1439 : List UInt8 := 96 :: TL_law_1440
def TL_law_1438 : List UInt8 := 5 :: TL_law_1439
def TL_law_1436 : List UInt8 := 21 :: 4 :: TL_law_1438
def TL_law_1435 : List UInt8 := 42 :: TL_law_1436
def TL_law_1434 : List UInt8 := 46 :: TL_law_1435
def TL_law_1433 : List UInt8 := 96 :: TL_law_1434
def TL_law_1432 : List UInt8 := 4 :: TL_law_1433
def TL_law_1430 : List UInt8 := 21 :: 4 :: TL_law_1432
def TL_law_1429 : List UInt8 := 42 :: TL_law_1430
def TL_law_1428 : List UInt8 := 44 :: TL_law_1429
def TL_law_1426 : List UInt8 := 54 :: 5 :: TL_law_1428
def TL_law_1423 : List UInt8 := 184 :: 1 :: 8 :: TL_law_1426
def TL_law_1422 : List UInt8 := 45 :: TL_law_1423
def TL_law_1421 : List UInt8 := 46 :: TL_law_1422
def TL_law_1420 : List UInt8 := 96 :: TL_law_1421
def TL_law_1419 : List UInt8 := 5 :: TL_law_1420
def TL_law_1417 : List UInt8 := 21 :: 4 :: TL_law_1419
def TL_law_1416 : List UInt8 := 42 :: TL_law_1417
def TL_law_1415 : List UInt8 := 46 :: TL_law_1416
def TL_law_1414 : List UInt8 := 96 :: TL_law_1415
def TL_law_1413 : List UInt8 := 4 :: TL_law_1414
def TL_law_1411 : List UInt8 := 21 :: 4 :: TL_law_1413
def TL_law_1410 : List UInt8 := 42 :: TL_law_1411
def TL_law_1409 : List UInt8 := 43 :: TL_law_1410
def TL_law_1406 : List UInt8 := 167 :: 3 :: 39 :: TL_law_1409
def TL_law_1404 : List UInt8 := 54 :: 6 :: TL_law_1406
def TL_law_1401 : List UInt8 := 182 :: 1 :: 7 :: TL_law_1404
def TL_law_1400 : List UInt8 := 46 :: TL_law_1401
def TL_law_1399 : List UInt8 := 96 :: TL_law_1400
def TL_law_1398 : List UInt8 := 5 :: TL_law_1399
def TL_law_1396 : List UInt8 := 21 :: 4 :: TL_law_1398
def TL_law_1395 : List UInt8 := 42 :: TL_law_1396
def TL_law_1394 : List UInt8 := 46 :: TL_law_1395
def TL_law_1393 : List UInt8 := 96 :: TL_law_1394
def TL_law_1392 : List UInt8 := 4 :: TL_law_1393
def TL_law_1390 : List UInt8 := 21 :: 4 :: TL_law_1392
def TL_law_1389 : List UInt8 := 42 :: TL_law_1390
def TL_law_1388 : List UInt8 := 44 :: TL_law_1389
def TL_law_1386 : List UInt8 := 54 :: 5 :: TL_law_1388
def TL_law_1383 : List UInt8 := 184 :: 1 :: 5 :: TL_law_1386
def TL_law_1382 : List UInt8 := 45 :: TL_law_1383
def TL_law_1381 : List UInt8 := 46 :: TL_law_1382
def TL_law_1380 : List UInt8 := 96 :: TL_law_1381
def TL_law_1379 : List UInt8 := 5 :: TL_law_1380
def TL_law_1377 : List UInt8 := 21 :: 4 :: TL_law_1379
def TL_law_1376 : List UInt8 := 42 :: TL_law_1377
def TL_law_1375 : List UInt8 := 46 :: TL_law_1376
def TL_law_1374 : List UInt8 := 96 :: TL_law_1375
def TL_law_1373 : List UInt8 := 4 :: TL_law_1374
def TL_law_1371 : List UInt8 := 21 :: 4 :: TL_law_1373
def TL_law_1370 : List UInt8 := 42 :: TL_law_1371
def TL_law_1369 : List UInt8 := 43 :: TL_law_1370
def TL_law_1366 : List UInt8 := 167 :: 3 :: 79 :: TL_law_1369
def TL_law_1365 : List UInt8 := 172 :: TL_law_1366
def TL_law_1364 : List UInt8 := 3 :: TL_law_1365
def TL_law_1361 : List UInt8 := 153 :: 0 :: 5 :: TL_law_1364
def TL_law_1360 : List UInt8 := 148 :: TL_law_1361
def TL_law_1359 : List UInt8 := 133 :: TL_law_1360
def TL_law_1357 : List UInt8 := 21 :: 6 :: TL_law_1359
def TL_law_1354 : List UInt8 := 180 :: 0 :: 13 :: TL_law_1357
def TL_law_1353 : List UInt8 := 45 :: TL_law_1354
def TL_law_1350 : List UInt8 := 154 :: 0 :: 16 :: TL_law_1353
def TL_law_1348 : List UInt8 := 21 :: 5 :: TL_law_1350
def TL_law_1347 : List UInt8 := 172 :: TL_law_1348
def TL_law_1346 : List UInt8 := 3 :: TL_law_1347
def TL_law_1343 : List UInt8 := 159 :: 0 :: 5 :: TL_law_1346
def TL_law_1341 : List UInt8 := 21 :: 5 :: TL_law_1343
def TL_law_1338 : List UInt8 := 182 :: 1 :: 1 :: TL_law_1341
def TL_law_1337 : List UInt8 := 44 :: TL_law_1338
def TL_law_1335 : List UInt8 := 54 :: 6 :: TL_law_1337
def TL_law_1332 : List UInt8 := 182 :: 1 :: 0 :: TL_law_1335
def TL_law_1331 : List UInt8 := 3 :: TL_law_1332
def TL_law_1328 : List UInt8 := 167 :: 0 :: 4 :: TL_law_1331
def TL_law_1327 : List UInt8 := 4 :: TL_law_1328
def TL_law_1324 : List UInt8 := 153 :: 0 :: 7 :: TL_law_1327
def TL_law_1323 : List UInt8 := 46 :: TL_law_1324
def TL_law_1322 : List UInt8 := 96 :: TL_law_1323
def TL_law_1321 : List UInt8 := 5 :: TL_law_1322
def TL_law_1319 : List UInt8 := 21 :: 4 :: TL_law_1321
def TL_law_1318 : List UInt8 := 42 :: TL_law_1319
def TL_law_1317 : List UInt8 := 46 :: TL_law_1318
def TL_law_1316 : List UInt8 := 96 :: TL_law_1317
def TL_law_1315 : List UInt8 := 4 :: TL_law_1316
def TL_law_1313 : List UInt8 := 21 :: 4 :: TL_law_1315
def TL_law_1312 : List UInt8 := 42 :: TL_law_1313
def TL_law_1311 : List UInt8 := 44 :: TL_law_1312
def TL_law_1309 : List UInt8 := 54 :: 5 :: TL_law_1311
def TL_law_1306 : List UInt8 := 184 :: 0 :: 254 :: TL_law_1309
def TL_law_1305 : List UInt8 := 45 :: TL_law_1306
def TL_law_1304 : List UInt8 := 3 :: TL_law_1305
def TL_law_1301 : List UInt8 := 167 :: 0 :: 4 :: TL_law_1304
def TL_law_1300 : List UInt8 := 4 :: TL_law_1301
def TL_law_1297 : List UInt8 := 153 :: 0 :: 7 :: TL_law_1300
def TL_law_1296 : List UInt8 := 46 :: TL_law_1297
def TL_law_1295 : List UInt8 := 96 :: TL_law_1296
def TL_law_1294 : List UInt8 := 5 :: TL_law_1295
def TL_law_1292 : List UInt8 := 21 :: 4 :: TL_law_1294
def TL_law_1291 : List UInt8 := 42 :: TL_law_1292
def TL_law_1290 : List UInt8 := 46 :: TL_law_1291
def TL_law_1289 : List UInt8 := 96 :: TL_law_1290
def TL_law_1288 : List UInt8 := 4 :: TL_law_1289
def TL_law_1286 : List UInt8 := 21 :: 4 :: TL_law_1288
def TL_law_1285 : List UInt8 := 42 :: TL_law_1286
def TL_law_1284 : List UInt8 := 43 :: TL_law_1285
def TL_law_1281 : List UInt8 := 167 :: 3 :: 164 :: TL_law_1284
def TL_law_1279 : List UInt8 := 54 :: 6 :: TL_law_1281
def TL_law_1276 : List UInt8 := 182 :: 0 :: 253 :: TL_law_1279
def TL_law_1275 : List UInt8 := 46 :: TL_law_1276
def TL_law_1274 : List UInt8 := 96 :: TL_law_1275
def TL_law_1273 : List UInt8 := 5 :: TL_law_1274
def TL_law_1271 : List UInt8 := 21 :: 4 :: TL_law_1273
def TL_law_1270 : List UInt8 := 42 :: TL_law_1271
def TL_law_1269 : List UInt8 := 46 :: TL_law_1270
def TL_law_1268 : List UInt8 := 96 :: TL_law_1269
def TL_law_1267 : List UInt8 := 4 :: TL_law_1268
def TL_law_1265 : List UInt8 := 21 :: 4 :: TL_law_1267
def TL_law_1264 : List UInt8 := 42 :: TL_law_1265
def TL_law_1263 : List UInt8 := 44 :: TL_law_1264
def TL_law_1261 : List UInt8 := 54 :: 5 :: TL_law_1263
def TL_law_1258 : List UInt8 := 184 :: 0 :: 251 :: TL_law_1261
def TL_law_1257 : List UInt8 := 45 :: TL_law_1258
def TL_law_1256 : List UInt8 := 46 :: TL_law_1257
def TL_law_1255 : List UInt8 := 96 :: TL_law_1256
def TL_law_1254 : List UInt8 := 5 :: TL_law_1255
def TL_law_1252 : List UInt8 := 21 :: 4 :: TL_law_1254
def TL_law_1251 : List UInt8 := 42 :: TL_law_1252
def TL_law_1250 : List UInt8 := 46 :: TL_law_1251
def TL_law_1249 : List UInt8 := 96 :: TL_law_1250
def TL_law_1248 : List UInt8 := 4 :: TL_law_1249
def TL_law_1246 : List UInt8 := 21 :: 4 :: TL_law_1248
def TL_law_1245 : List UInt8 := 42 :: TL_law_1246
def TL_law_1244 : List UInt8 := 43 :: TL_law_1245
def TL_law_1241 : List UInt8 := 167 :: 3 :: 204 :: TL_law_1244
def TL_law_1239 : List UInt8 := 54 :: 6 :: TL_law_1241
def TL_law_1236 : List UInt8 := 182 :: 0 :: 250 :: TL_law_1239
def TL_law_1235 : List UInt8 := 46 :: TL_law_1236
def TL_law_1234 : List UInt8 := 96 :: TL_law_1235
def TL_law_1233 : List UInt8 := 6 :: TL_law_1234
def TL_law_1231 : List UInt8 := 21 :: 4 :: TL_law_1233
def TL_law_1230 : List UInt8 := 42 :: TL_law_1231
def TL_law_1229 : List UInt8 := 46 :: TL_law_1230
def TL_law_1228 : List UInt8 := 96 :: TL_law_1229
def TL_law_1227 : List UInt8 := 5 :: TL_law_1228
def TL_law_1225 : List UInt8 := 21 :: 4 :: TL_law_1227
def TL_law_1224 : List UInt8 := 42 :: TL_law_1225
def TL_law_1223 : List UInt8 := 46 :: TL_law_1224
def TL_law_1222 : List UInt8 := 96 :: TL_law_1223
def TL_law_1221 : List UInt8 := 4 :: TL_law_1222
def TL_law_1219 : List UInt8 := 21 :: 4 :: TL_law_1221
def TL_law_1218 : List UInt8 := 42 :: TL_law_1219
def TL_law_1217 : List UInt8 := 44 :: TL_law_1218
def TL_law_1215 : List UInt8 := 54 :: 5 :: TL_law_1217
def TL_law_1212 : List UInt8 := 184 :: 0 :: 248 :: TL_law_1215
def TL_law_1211 : List UInt8 := 45 :: TL_law_1212
def TL_law_1210 : List UInt8 := 46 :: TL_law_1211
def TL_law_1209 : List UInt8 := 96 :: TL_law_1210
def TL_law_1208 : List UInt8 := 6 :: TL_law_1209
def TL_law_1206 : List UInt8 := 21 :: 4 :: TL_law_1208
def TL_law_1205 : List UInt8 := 42 :: TL_law_1206
def TL_law_1204 : List UInt8 := 46 :: TL_law_1205
def TL_law_1203 : List UInt8 := 96 :: TL_law_1204
def TL_law_1202 : List UInt8 := 5 :: TL_law_1203
def TL_law_1200 : List UInt8 := 21 :: 4 :: TL_law_1202
def TL_law_1199 : List UInt8 := 42 :: TL_law_1200
def TL_law_1198 : List UInt8 := 46 :: TL_law_1199
def TL_law_1197 : List UInt8 := 96 :: TL_law_1198
def TL_law_1196 : List UInt8 := 4 :: TL_law_1197
def TL_law_1194 : List UInt8 := 21 :: 4 :: TL_law_1196
def TL_law_1193 : List UInt8 := 42 :: TL_law_1194
def TL_law_1192 : List UInt8 := 43 :: TL_law_1193
def TL_law_1189 : List UInt8 := 167 :: 4 :: 0 :: TL_law_1192
def TL_law_1187 : List UInt8 := 54 :: 6 :: TL_law_1189
def TL_law_1184 : List UInt8 := 182 :: 0 :: 247 :: TL_law_1187
def TL_law_1183 : List UInt8 := 46 :: TL_law_1184
def TL_law_1182 : List UInt8 := 96 :: TL_law_1183
def TL_law_1181 : List UInt8 := 5 :: TL_law_1182
def TL_law_1179 : List UInt8 := 21 :: 4 :: TL_law_1181
def TL_law_1178 : List UInt8 := 42 :: TL_law_1179
def TL_law_1177 : List UInt8 := 46 :: TL_law_1178
def TL_law_1176 : List UInt8 := 96 :: TL_law_1177
def TL_law_1175 : List UInt8 := 4 :: TL_law_1176
def TL_law_1173 : List UInt8 := 21 :: 4 :: TL_law_1175
def TL_law_1172 : List UInt8 := 42 :: TL_law_1173
def TL_law_1171 : List UInt8 := 44 :: TL_law_1172
def TL_law_1169 : List UInt8 := 54 :: 5 :: TL_law_1171
def TL_law_1166 : List UInt8 := 184 :: 0 :: 245 :: TL_law_1169
def TL_law_1165 : List UInt8 := 45 :: TL_law_1166
def TL_law_1164 : List UInt8 := 46 :: TL_law_1165
def TL_law_1163 : List UInt8 := 96 :: TL_law_1164
def TL_law_1162 : List UInt8 := 5 :: TL_law_1163
def TL_law_1160 : List UInt8 := 21 :: 4 :: TL_law_1162
def TL_law_1159 : List UInt8 := 42 :: TL_law_1160
def TL_law_1158 : List UInt8 := 46 :: TL_law_1159
def TL_law_1157 : List UInt8 := 96 :: TL_law_1158
def TL_law_1156 : List UInt8 := 4 :: TL_law_1157
def TL_law_1154 : List UInt8 := 21 :: 4 :: TL_law_1156
def TL_law_1153 : List UInt8 := 42 :: TL_law_1154
def TL_law_1152 : List UInt8 := 43 :: TL_law_1153
def TL_law_1149 : List UInt8 := 167 :: 4 :: 40 :: TL_law_1152
def TL_law_1147 : List UInt8 := 54 :: 6 :: TL_law_1149
def TL_law_1144 : List UInt8 := 182 :: 0 :: 244 :: TL_law_1147
def TL_law_1143 : List UInt8 := 46 :: TL_law_1144
def TL_law_1142 : List UInt8 := 96 :: TL_law_1143
def TL_law_1141 : List UInt8 := 5 :: TL_law_1142
def TL_law_1139 : List UInt8 := 21 :: 4 :: TL_law_1141
def TL_law_1138 : List UInt8 := 42 :: TL_law_1139
def TL_law_1137 : List UInt8 := 46 :: TL_law_1138
def TL_law_1136 : List UInt8 := 96 :: TL_law_1137
def TL_law_1135 : List UInt8 := 4 :: TL_law_1136
def TL_law_1133 : List UInt8 := 21 :: 4 :: TL_law_1135
def TL_law_1132 : List UInt8 := 42 :: TL_law_1133
def TL_law_1131 : List UInt8 := 44 :: TL_law_1132
def TL_law_1129 : List UInt8 := 54 :: 5 :: TL_law_1131
def TL_law_1126 : List UInt8 := 184 :: 0 :: 242 :: TL_law_1129
def TL_law_1125 : List UInt8 := 45 :: TL_law_1126
def TL_law_1124 : List UInt8 := 46 :: TL_law_1125
def TL_law_1123 : List UInt8 := 96 :: TL_law_1124
def TL_law_1122 : List UInt8 := 5 :: TL_law_1123
def TL_law_1120 : List UInt8 := 21 :: 4 :: TL_law_1122
def TL_law_1119 : List UInt8 := 42 :: TL_law_1120
def TL_law_1118 : List UInt8 := 46 :: TL_law_1119
def TL_law_1117 : List UInt8 := 96 :: TL_law_1118
def TL_law_1116 : List UInt8 := 4 :: TL_law_1117
def TL_law_1114 : List UInt8 := 21 :: 4 :: TL_law_1116
def TL_law_1113 : List UInt8 := 42 :: TL_law_1114
def TL_law_1112 : List UInt8 := 43 :: TL_law_1113
def TL_law_1109 : List UInt8 := 167 :: 4 :: 80 :: TL_law_1112
def TL_law_1107 : List UInt8 := 54 :: 6 :: TL_law_1109
def TL_law_1104 : List UInt8 := 182 :: 0 :: 241 :: TL_law_1107
def TL_law_1103 : List UInt8 := 46 :: TL_law_1104
def TL_law_1102 : List UInt8 := 96 :: TL_law_1103
def TL_law_1101 : List UInt8 := 7 :: TL_law_1102
def TL_law_1099 : List UInt8 := 21 :: 4 :: TL_law_1101
def TL_law_1098 : List UInt8 := 42 :: TL_law_1099
def TL_law_1097 : List UInt8 := 46 :: TL_law_1098
def TL_law_1096 : List UInt8 := 96 :: TL_law_1097
def TL_law_1095 : List UInt8 := 6 :: TL_law_1096
def TL_law_1093 : List UInt8 := 21 :: 4 :: TL_law_1095
def TL_law_1092 : List UInt8 := 42 :: TL_law_1093
def TL_law_1091 : List UInt8 := 46 :: TL_law_1092
def TL_law_1090 : List UInt8 := 96 :: TL_law_1091
def TL_law_1089 : List UInt8 := 5 :: TL_law_1090
def TL_law_1087 : List UInt8 := 21 :: 4 :: TL_law_1089
def TL_law_1086 : List UInt8 := 42 :: TL_law_1087
def TL_law_1085 : List UInt8 := 46 :: TL_law_1086
def TL_law_1084 : List UInt8 := 96 :: TL_law_1085
def TL_law_1083 : List UInt8 := 4 :: TL_law_1084
def TL_law_1081 : List UInt8 := 21 :: 4 :: TL_law_1083
def TL_law_1080 : List UInt8 := 42 :: TL_law_1081
def TL_law_1079 : List UInt8 := 44 :: TL_law_1080
def TL_law_1077 : List UInt8 := 54 :: 5 :: TL_law_1079
def TL_law_1074 : List UInt8 := 184 :: 0 :: 238 :: TL_law_1077
def TL_law_1073 : List UInt8 := 45 :: TL_law_1074
def TL_law_1072 : List UInt8 := 46 :: TL_law_1073
def TL_law_1071 : List UInt8 := 96 :: TL_law_1072
def TL_law_1070 : List UInt8 := 7 :: TL_law_1071
def TL_law_1068 : List UInt8 := 21 :: 4 :: TL_law_1070
def TL_law_1067 : List UInt8 := 42 :: TL_law_1068
def TL_law_1066 : List UInt8 := 46 :: TL_law_1067
def TL_law_1065 : List UInt8 := 96 :: TL_law_1066
def TL_law_1064 : List UInt8 := 6 :: TL_law_1065
def TL_law_1062 : List UInt8 := 21 :: 4 :: TL_law_1064
def TL_law_1061 : List UInt8 := 42 :: TL_law_1062
def TL_law_1060 : List UInt8 := 46 :: TL_law_1061
def TL_law_1059 : List UInt8 := 96 :: TL_law_1060
def TL_law_1058 : List UInt8 := 5 :: TL_law_1059
def TL_law_1056 : List UInt8 := 21 :: 4 :: TL_law_1058
def TL_law_1055 : List UInt8 := 42 :: TL_law_1056
def TL_law_1054 : List UInt8 := 46 :: TL_law_1055
def TL_law_1053 : List UInt8 := 96 :: TL_law_1054
def TL_law_1052 : List UInt8 := 4 :: TL_law_1053
def TL_law_1050 : List UInt8 := 21 :: 4 :: TL_law_1052
def TL_law_1049 : List UInt8 := 42 :: TL_law_1050
def TL_law_1048 : List UInt8 := 43 :: TL_law_1049
def TL_law_1045 : List UInt8 := 167 :: 4 :: 144 :: TL_law_1048
def TL_law_1043 : List UInt8 := 58 :: 6 :: TL_law_1045
def TL_law_1040 : List UInt8 := 182 :: 0 :: 237 :: TL_law_1043
def TL_law_1039 : List UInt8 := 46 :: TL_law_1040
def TL_law_1038 : List UInt8 := 96 :: TL_law_1039
def TL_law_1037 : List UInt8 := 4 :: TL_law_1038
def TL_law_1035 : List UInt8 := 21 :: 4 :: TL_law_1037
def TL_law_1034 : List UInt8 := 42 :: TL_law_1035
def TL_law_1033 : List UInt8 := 44 :: TL_law_1034
def TL_law_1031 : List UInt8 := 54 :: 5 :: TL_law_1033
def TL_law_1028 : List UInt8 := 184 :: 0 :: 235 :: TL_law_1031
def TL_law_1027 : List UInt8 := 45 :: TL_law_1028
def TL_law_1026 : List UInt8 := 46 :: TL_law_1027
def TL_law_1025 : List UInt8 := 96 :: TL_law_1026
def TL_law_1024 : List UInt8 := 4 :: TL_law_1025
def TL_law_1022 : List UInt8 := 21 :: 4 :: TL_law_1024
def TL_law_1021 : List UInt8 := 42 :: TL_law_1022
def TL_law_1020 : List UInt8 := 43 :: TL_law_1021
def TL_law_1017 : List UInt8 := 167 :: 4 :: 172 :: TL_law_1020
def TL_law_1015 : List UInt8 := 58 :: 6 :: TL_law_1017
def TL_law_1012 : List UInt8 := 182 :: 0 :: 234 :: TL_law_1015
def TL_law_1011 : List UInt8 := 3 :: TL_law_1012
def TL_law_1008 : List UInt8 := 167 :: 0 :: 4 :: TL_law_1011
def TL_law_1007 : List UInt8 := 4 :: TL_law_1008
def TL_law_1004 : List UInt8 := 153 :: 0 :: 7 :: TL_law_1007
def TL_law_1003 : List UInt8 := 46 :: TL_law_1004
def TL_law_1002 : List UInt8 := 96 :: TL_law_1003
def TL_law_1001 : List UInt8 := 5 :: TL_law_1002
def TL_law_999 : List UInt8 := 21 :: 4 :: TL_law_1001
def TL_law_998 : List UInt8 := 42 :: TL_law_999
def TL_law_997 : List UInt8 := 46 :: TL_law_998
def TL_law_996 : List UInt8 := 96 :: TL_law_997
def TL_law_995 : List UInt8 := 4 :: TL_law_996
def TL_law_993 : List UInt8 := 21 :: 4 :: TL_law_995
def TL_law_992 : List UInt8 := 42 :: TL_law_993
def TL_law_991 : List UInt8 := 44 :: TL_law_992
def TL_law_989 : List UInt8 := 54 :: 5 :: TL_law_991
def TL_law_986 : List UInt8 := 184 :: 0 :: 232 :: TL_law_989
def TL_law_985 : List UInt8 := 45 :: TL_law_986
def TL_law_984 : List UInt8 := 3 :: TL_law_985
def TL_law_981 : List UInt8 := 167 :: 0 :: 4 :: TL_law_984
def TL_law_980 : List UInt8 := 4 :: TL_law_981
def TL_law_977 : List UInt8 := 153 :: 0 :: 7 :: TL_law_980
def TL_law_976 : List UInt8 := 46 :: TL_law_977
def TL_law_975 : List UInt8 := 96 :: TL_law_976
def TL_law_974 : List UInt8 := 5 :: TL_law_975
def TL_law_972 : List UInt8 := 21 :: 4 :: TL_law_974
def TL_law_971 : List UInt8 := 42 :: TL_law_972
def TL_law_970 : List UInt8 := 46 :: TL_law_971
def TL_law_969 : List UInt8 := 96 :: TL_law_970
def TL_law_968 : List UInt8 := 4 :: TL_law_969
def TL_law_966 : List UInt8 := 21 :: 4 :: TL_law_968
def TL_law_965 : List UInt8 := 42 :: TL_law_966
def TL_law_964 : List UInt8 := 43 :: TL_law_965
def TL_law_961 : List UInt8 := 167 :: 4 :: 228 :: TL_law_964
def TL_law_959 : List UInt8 := 58 :: 6 :: TL_law_961
def TL_law_956 : List UInt8 := 182 :: 0 :: 231 :: TL_law_959
def TL_law_955 : List UInt8 := 3 :: TL_law_956
def TL_law_952 : List UInt8 := 167 :: 0 :: 4 :: TL_law_955
def TL_law_951 : List UInt8 := 4 :: TL_law_952
def TL_law_948 : List UInt8 := 153 :: 0 :: 7 :: TL_law_951
def TL_law_947 : List UInt8 := 46 :: TL_law_948
def TL_law_946 : List UInt8 := 96 :: TL_law_947
def TL_law_945 : List UInt8 := 5 :: TL_law_946
def TL_law_943 : List UInt8 := 21 :: 4 :: TL_law_945
def TL_law_942 : List UInt8 := 42 :: TL_law_943
def TL_law_941 : List UInt8 := 46 :: TL_law_942
def TL_law_940 : List UInt8 := 96 :: TL_law_941
def TL_law_939 : List UInt8 := 4 :: TL_law_940
def TL_law_937 : List UInt8 := 21 :: 4 :: TL_law_939
def TL_law_936 : List UInt8 := 42 :: TL_law_937
def TL_law_935 : List UInt8 := 44 :: TL_law_936
def TL_law_933 : List UInt8 := 54 :: 5 :: TL_law_935
def TL_law_930 : List UInt8 := 184 :: 0 :: 228 :: TL_law_933
def TL_law_929 : List UInt8 := 45 :: TL_law_930
def TL_law_928 : List UInt8 := 3 :: TL_law_929
def TL_law_925 : List UInt8 := 167 :: 0 :: 4 :: TL_law_928
def TL_law_924 : List UInt8 := 4 :: TL_law_925
def TL_law_921 : List UInt8 := 153 :: 0 :: 7 :: TL_law_924
def TL_law_920 : List UInt8 := 46 :: TL_law_921
def TL_law_919 : List UInt8 := 96 :: TL_law_920
def TL_law_918 : List UInt8 := 5 :: TL_law_919
def TL_law_916 : List UInt8 := 21 :: 4 :: TL_law_918
def TL_law_915 : List UInt8 := 42 :: TL_law_916
def TL_law_914 : List UInt8 := 46 :: TL_law_915
def TL_law_913 : List UInt8 := 96 :: TL_law_914
def TL_law_912 : List UInt8 := 4 :: TL_law_913
def TL_law_910 : List UInt8 := 21 :: 4 :: TL_law_912
def TL_law_909 : List UInt8 := 42 :: TL_law_910
def TL_law_908 : List UInt8 := 43 :: TL_law_909
def TL_law_905 : List UInt8 := 167 :: 5 :: 28 :: TL_law_908
def TL_law_903 : List UInt8 := 58 :: 6 :: TL_law_905
def TL_law_900 : List UInt8 := 182 :: 0 :: 227 :: TL_law_903
def TL_law_899 : List UInt8 := 46 :: TL_law_900
def TL_law_898 : List UInt8 := 96 :: TL_law_899
def TL_law_897 : List UInt8 := 4 :: TL_law_898
def TL_law_895 : List UInt8 := 21 :: 4 :: TL_law_897
def TL_law_894 : List UInt8 := 42 :: TL_law_895
def TL_law_893 : List UInt8 := 44 :: TL_law_894
def TL_law_891 : List UInt8 := 54 :: 5 :: TL_law_893
def TL_law_888 : List UInt8 := 184 :: 0 :: 225 :: TL_law_891
def TL_law_887 : List UInt8 := 45 :: TL_law_888
def TL_law_886 : List UInt8 := 46 :: TL_law_887
def TL_law_885 : List UInt8 := 96 :: TL_law_886
def TL_law_884 : List UInt8 := 4 :: TL_law_885
def TL_law_882 : List UInt8 := 21 :: 4 :: TL_law_884
def TL_law_881 : List UInt8 := 42 :: TL_law_882
def TL_law_880 : List UInt8 := 43 :: TL_law_881
def TL_law_877 : List UInt8 := 167 :: 5 :: 56 :: TL_law_880
def TL_law_875 : List UInt8 := 54 :: 6 :: TL_law_877
def TL_law_872 : List UInt8 := 182 :: 0 :: 224 :: TL_law_875
def TL_law_871 : List UInt8 := 46 :: TL_law_872
def TL_law_870 : List UInt8 := 96 :: TL_law_871
def TL_law_869 : List UInt8 := 4 :: TL_law_870
def TL_law_867 : List UInt8 := 21 :: 4 :: TL_law_869
def TL_law_866 : List UInt8 := 42 :: TL_law_867
def TL_law_865 : List UInt8 := 44 :: TL_law_866
def TL_law_863 : List UInt8 := 54 :: 5 :: TL_law_865
def TL_law_860 : List UInt8 := 184 :: 0 :: 222 :: TL_law_863
def TL_law_859 : List UInt8 := 45 :: TL_law_860
def TL_law_858 : List UInt8 := 46 :: TL_law_859
def TL_law_857 : List UInt8 := 96 :: TL_law_858
def TL_law_856 : List UInt8 := 4 :: TL_law_857
def TL_law_854 : List UInt8 := 21 :: 4 :: TL_law_856
def TL_law_853 : List UInt8 := 42 :: TL_law_854
def TL_law_852 : List UInt8 := 43 :: TL_law_853
def TL_law_849 : List UInt8 := 167 :: 5 :: 84 :: TL_law_852
def TL_law_847 : List UInt8 := 58 :: 6 :: TL_law_849
def TL_law_844 : List UInt8 := 182 :: 0 :: 221 :: TL_law_847
def TL_law_843 : List UInt8 := 46 :: TL_law_844
def TL_law_842 : List UInt8 := 96 :: TL_law_843
def TL_law_841 : List UInt8 := 5 :: TL_law_842
def TL_law_839 : List UInt8 := 21 :: 4 :: TL_law_841
def TL_law_838 : List UInt8 := 42 :: TL_law_839
def TL_law_837 : List UInt8 := 46 :: TL_law_838
def TL_law_836 : List UInt8 := 96 :: TL_law_837
def TL_law_835 : List UInt8 := 4 :: TL_law_836
def TL_law_833 : List UInt8 := 21 :: 4 :: TL_law_835
def TL_law_832 : List UInt8 := 42 :: TL_law_833
def TL_law_831 : List UInt8 := 44 :: TL_law_832
def TL_law_829 : List UInt8 := 54 :: 5 :: TL_law_831
def TL_law_826 : List UInt8 := 184 :: 0 :: 219 :: TL_law_829
def TL_law_825 : List UInt8 := 45 :: TL_law_826
def TL_law_824 : List UInt8 := 46 :: TL_law_825
def TL_law_823 : List UInt8 := 96 :: TL_law_824
def TL_law_822 : List UInt8 := 5 :: TL_law_823
def TL_law_820 : List UInt8 := 21 :: 4 :: TL_law_822
def TL_law_819 : List UInt8 := 42 :: TL_law_820
def TL_law_818 : List UInt8 := 46 :: TL_law_819
def TL_law_817 : List UInt8 := 96 :: TL_law_818
def TL_law_816 : List UInt8 := 4 :: TL_law_817
def TL_law_814 : List UInt8 := 21 :: 4 :: TL_law_816
def TL_law_813 : List UInt8 := 42 :: TL_law_814
def TL_law_812 : List UInt8 := 43 :: TL_law_813
def TL_law_809 : List UInt8 := 167 :: 5 :: 124 :: TL_law_812
def TL_law_807 : List UInt8 := 54 :: 6 :: TL_law_809
def TL_law_804 : List UInt8 := 182 :: 0 :: 218 :: TL_law_807
def TL_law_803 : List UInt8 := 46 :: TL_law_804
def TL_law_802 : List UInt8 := 96 :: TL_law_803
def TL_law_801 : List UInt8 := 4 :: TL_law_802
def TL_law_799 : List UInt8 := 21 :: 4 :: TL_law_801
def TL_law_798 : List UInt8 := 42 :: TL_law_799
def TL_law_797 : List UInt8 := 44 :: TL_law_798
def TL_law_795 : List UInt8 := 54 :: 5 :: TL_law_797
def TL_law_792 : List UInt8 := 184 :: 0 :: 216 :: TL_law_795
def TL_law_791 : List UInt8 := 45 :: TL_law_792
def TL_law_790 : List UInt8 := 46 :: TL_law_791
def TL_law_789 : List UInt8 := 96 :: TL_law_790
def TL_law_788 : List UInt8 := 4 :: TL_law_789
def TL_law_786 : List UInt8 := 21 :: 4 :: TL_law_788
def TL_law_785 : List UInt8 := 42 :: TL_law_786
def TL_law_784 : List UInt8 := 43 :: TL_law_785
def TL_law_781 : List UInt8 := 167 :: 5 :: 152 :: TL_law_784
def TL_law_779 : List UInt8 := 58 :: 6 :: TL_law_781
def TL_law_776 : List UInt8 := 182 :: 0 :: 215 :: TL_law_779
def TL_law_775 : List UInt8 := 46 :: TL_law_776
def TL_law_774 : List UInt8 := 96 :: TL_law_775
def TL_law_773 : List UInt8 := 5 :: TL_law_774
def TL_law_771 : List UInt8 := 21 :: 4 :: TL_law_773
def TL_law_770 : List UInt8 := 42 :: TL_law_771
def TL_law_769 : List UInt8 := 46 :: TL_law_770
def TL_law_768 : List UInt8 := 96 :: TL_law_769
def TL_law_767 : List UInt8 := 4 :: TL_law_768
def TL_law_765 : List UInt8 := 21 :: 4 :: TL_law_767
def TL_law_764 : List UInt8 := 42 :: TL_law_765
def TL_law_763 : List UInt8 := 44 :: TL_law_764
def TL_law_761 : List UInt8 := 54 :: 5 :: TL_law_763
def TL_law_758 : List UInt8 := 184 :: 0 :: 213 :: TL_law_761
def TL_law_757 : List UInt8 := 45 :: TL_law_758
def TL_law_756 : List UInt8 := 46 :: TL_law_757
def TL_law_755 : List UInt8 := 96 :: TL_law_756
def TL_law_754 : List UInt8 := 5 :: TL_law_755
def TL_law_752 : List UInt8 := 21 :: 4 :: TL_law_754
def TL_law_751 : List UInt8 := 42 :: TL_law_752
def TL_law_750 : List UInt8 := 46 :: TL_law_751
def TL_law_749 : List UInt8 := 96 :: TL_law_750
def TL_law_748 : List UInt8 := 4 :: TL_law_749
def TL_law_746 : List UInt8 := 21 :: 4 :: TL_law_748
def TL_law_745 : List UInt8 := 42 :: TL_law_746
def TL_law_744 : List UInt8 := 43 :: TL_law_745
def TL_law_741 : List UInt8 := 167 :: 5 :: 192 :: TL_law_744
def TL_law_739 : List UInt8 := 54 :: 6 :: TL_law_741
def TL_law_736 : List UInt8 := 182 :: 0 :: 212 :: TL_law_739
def TL_law_735 : List UInt8 := 46 :: TL_law_736
def TL_law_734 : List UInt8 := 96 :: TL_law_735
def TL_law_733 : List UInt8 := 5 :: TL_law_734
def TL_law_731 : List UInt8 := 21 :: 4 :: TL_law_733
def TL_law_730 : List UInt8 := 42 :: TL_law_731
def TL_law_729 : List UInt8 := 46 :: TL_law_730
def TL_law_728 : List UInt8 := 96 :: TL_law_729
def TL_law_727 : List UInt8 := 4 :: TL_law_728
def TL_law_725 : List UInt8 := 21 :: 4 :: TL_law_727
def TL_law_724 : List UInt8 := 42 :: TL_law_725
def TL_law_723 : List UInt8 := 44 :: TL_law_724
def TL_law_721 : List UInt8 := 54 :: 5 :: TL_law_723
def TL_law_718 : List UInt8 := 184 :: 0 :: 210 :: TL_law_721
def TL_law_717 : List UInt8 := 45 :: TL_law_718
def TL_law_716 : List UInt8 := 46 :: TL_law_717
def TL_law_715 : List UInt8 := 96 :: TL_law_716
def TL_law_714 : List UInt8 := 5 :: TL_law_715
def TL_law_712 : List UInt8 := 21 :: 4 :: TL_law_714
def TL_law_711 : List UInt8 := 42 :: TL_law_712
def TL_law_710 : List UInt8 := 46 :: TL_law_711
def TL_law_709 : List UInt8 := 96 :: TL_law_710
def TL_law_708 : List UInt8 := 4 :: TL_law_709
def TL_law_706 : List UInt8 := 21 :: 4 :: TL_law_708
def TL_law_705 : List UInt8 := 42 :: TL_law_706
def TL_law_704 : List UInt8 := 43 :: TL_law_705
def TL_law_701 : List UInt8 := 167 :: 5 :: 232 :: TL_law_704
def TL_law_699 : List UInt8 := 54 :: 6 :: TL_law_701
def TL_law_696 : List UInt8 := 182 :: 0 :: 209 :: TL_law_699
def TL_law_695 : List UInt8 := 46 :: TL_law_696
def TL_law_694 : List UInt8 := 96 :: TL_law_695
def TL_law_693 : List UInt8 := 5 :: TL_law_694
def TL_law_691 : List UInt8 := 21 :: 4 :: TL_law_693
def TL_law_690 : List UInt8 := 42 :: TL_law_691
def TL_law_689 : List UInt8 := 46 :: TL_law_690
def TL_law_688 : List UInt8 := 96 :: TL_law_689
def TL_law_687 : List UInt8 := 4 :: TL_law_688
def TL_law_685 : List UInt8 := 21 :: 4 :: TL_law_687
def TL_law_684 : List UInt8 := 42 :: TL_law_685
def TL_law_683 : List UInt8 := 44 :: TL_law_684
def TL_law_681 : List UInt8 := 54 :: 5 :: TL_law_683
def TL_law_678 : List UInt8 := 184 :: 0 :: 207 :: TL_law_681
def TL_law_677 : List UInt8 := 45 :: TL_law_678
def TL_law_676 : List UInt8 := 46 :: TL_law_677
def TL_law_675 : List UInt8 := 96 :: TL_law_676
def TL_law_674 : List UInt8 := 5 :: TL_law_675
def TL_law_672 : List UInt8 := 21 :: 4 :: TL_law_674
def TL_law_671 : List UInt8 := 42 :: TL_law_672
def TL_law_670 : List UInt8 := 46 :: TL_law_671
def TL_law_669 : List UInt8 := 96 :: TL_law_670
def TL_law_668 : List UInt8 := 4 :: TL_law_669
def TL_law_666 : List UInt8 := 21 :: 4 :: TL_law_668
def TL_law_665 : List UInt8 := 42 :: TL_law_666
def TL_law_664 : List UInt8 := 43 :: TL_law_665
def TL_law_661 : List UInt8 := 167 :: 6 :: 16 :: TL_law_664
def TL_law_659 : List UInt8 := 54 :: 6 :: TL_law_661
def TL_law_656 : List UInt8 := 182 :: 0 :: 206 :: TL_law_659
def TL_law_655 : List UInt8 := 46 :: TL_law_656
def TL_law_654 : List UInt8 := 96 :: TL_law_655
def TL_law_653 : List UInt8 := 6 :: TL_law_654
def TL_law_651 : List UInt8 := 21 :: 4 :: TL_law_653
def TL_law_650 : List UInt8 := 42 :: TL_law_651
def TL_law_649 : List UInt8 := 3 :: TL_law_650
def TL_law_646 : List UInt8 := 167 :: 0 :: 4 :: TL_law_649
def TL_law_645 : List UInt8 := 4 :: TL_law_646
def TL_law_642 : List UInt8 := 153 :: 0 :: 7 :: TL_law_645
def TL_law_641 : List UInt8 := 46 :: TL_law_642
def TL_law_640 : List UInt8 := 96 :: TL_law_641
def TL_law_639 : List UInt8 := 5 :: TL_law_640
def TL_law_637 : List UInt8 := 21 :: 4 :: TL_law_639
def TL_law_636 : List UInt8 := 42 :: TL_law_637
def TL_law_635 : List UInt8 := 46 :: TL_law_636
def TL_law_634 : List UInt8 := 96 :: TL_law_635
def TL_law_633 : List UInt8 := 4 :: TL_law_634
def TL_law_631 : List UInt8 := 21 :: 4 :: TL_law_633
def TL_law_630 : List UInt8 := 42 :: TL_law_631
def TL_law_629 : List UInt8 := 44 :: TL_law_630
def TL_law_627 : List UInt8 := 54 :: 5 :: TL_law_629
def TL_law_624 : List UInt8 := 184 :: 0 :: 204 :: TL_law_627
def TL_law_623 : List UInt8 := 45 :: TL_law_624
def TL_law_622 : List UInt8 := 46 :: TL_law_623
def TL_law_621 : List UInt8 := 96 :: TL_law_622
def TL_law_620 : List UInt8 := 6 :: TL_law_621
def TL_law_618 : List UInt8 := 21 :: 4 :: TL_law_620
def TL_law_617 : List UInt8 := 42 :: TL_law_618
def TL_law_616 : List UInt8 := 3 :: TL_law_617
def TL_law_613 : List UInt8 := 167 :: 0 :: 4 :: TL_law_616
def TL_law_612 : List UInt8 := 4 :: TL_law_613
def TL_law_609 : List UInt8 := 153 :: 0 :: 7 :: TL_law_612
def TL_law_608 : List UInt8 := 46 :: TL_law_609
def TL_law_607 : List UInt8 := 96 :: TL_law_608
def TL_law_606 : List UInt8 := 5 :: TL_law_607
def TL_law_604 : List UInt8 := 21 :: 4 :: TL_law_606
def TL_law_603 : List UInt8 := 42 :: TL_law_604
def TL_law_602 : List UInt8 := 46 :: TL_law_603
def TL_law_601 : List UInt8 := 96 :: TL_law_602
def TL_law_600 : List UInt8 := 4 :: TL_law_601
def TL_law_598 : List UInt8 := 21 :: 4 :: TL_law_600
def TL_law_597 : List UInt8 := 42 :: TL_law_598
def TL_law_596 : List UInt8 := 43 :: TL_law_597
def TL_law_593 : List UInt8 := 167 :: 6 :: 84 :: TL_law_596
def TL_law_591 : List UInt8 := 54 :: 6 :: TL_law_593
def TL_law_588 : List UInt8 := 182 :: 0 :: 203 :: TL_law_591
def TL_law_587 : List UInt8 := 46 :: TL_law_588
def TL_law_586 : List UInt8 := 96 :: TL_law_587
def TL_law_585 : List UInt8 := 6 :: TL_law_586
def TL_law_583 : List UInt8 := 21 :: 4 :: TL_law_585
def TL_law_582 : List UInt8 := 42 :: TL_law_583
def TL_law_581 : List UInt8 := 3 :: TL_law_582
def TL_law_578 : List UInt8 := 167 :: 0 :: 4 :: TL_law_581
def TL_law_577 : List UInt8 := 4 :: TL_law_578
def TL_law_574 : List UInt8 := 153 :: 0 :: 7 :: TL_law_577
def TL_law_573 : List UInt8 := 46 :: TL_law_574
def TL_law_572 : List UInt8 := 96 :: TL_law_573
def TL_law_571 : List UInt8 := 5 :: TL_law_572
def TL_law_569 : List UInt8 := 21 :: 4 :: TL_law_571
def TL_law_568 : List UInt8 := 42 :: TL_law_569
def TL_law_567 : List UInt8 := 46 :: TL_law_568
def TL_law_566 : List UInt8 := 96 :: TL_law_567
def TL_law_565 : List UInt8 := 4 :: TL_law_566
def TL_law_563 : List UInt8 := 21 :: 4 :: TL_law_565
def TL_law_562 : List UInt8 := 42 :: TL_law_563
def TL_law_561 : List UInt8 := 44 :: TL_law_562
def TL_law_559 : List UInt8 := 54 :: 5 :: TL_law_561
def TL_law_556 : List UInt8 := 184 :: 0 :: 200 :: TL_law_559
def TL_law_555 : List UInt8 := 45 :: TL_law_556
def TL_law_554 : List UInt8 := 46 :: TL_law_555
def TL_law_553 : List UInt8 := 96 :: TL_law_554
def TL_law_552 : List UInt8 := 6 :: TL_law_553
def TL_law_550 : List UInt8 := 21 :: 4 :: TL_law_552
def TL_law_549 : List UInt8 := 42 :: TL_law_550
def TL_law_548 : List UInt8 := 3 :: TL_law_549
def TL_law_545 : List UInt8 := 167 :: 0 :: 4 :: TL_law_548
def TL_law_544 : List UInt8 := 4 :: TL_law_545
def TL_law_541 : List UInt8 := 153 :: 0 :: 7 :: TL_law_544
def TL_law_540 : List UInt8 := 46 :: TL_law_541
def TL_law_539 : List UInt8 := 96 :: TL_law_540
def TL_law_538 : List UInt8 := 5 :: TL_law_539
def TL_law_536 : List UInt8 := 21 :: 4 :: TL_law_538
def TL_law_535 : List UInt8 := 42 :: TL_law_536
def TL_law_534 : List UInt8 := 46 :: TL_law_535
def TL_law_533 : List UInt8 := 96 :: TL_law_534
def TL_law_532 : List UInt8 := 4 :: TL_law_533
def TL_law_530 : List UInt8 := 21 :: 4 :: TL_law_532
def TL_law_529 : List UInt8 := 42 :: TL_law_530
def TL_law_528 : List UInt8 := 43 :: TL_law_529
def TL_law_525 : List UInt8 := 167 :: 6 :: 152 :: TL_law_528
def TL_law_523 : List UInt8 := 54 :: 6 :: TL_law_525
def TL_law_520 : List UInt8 := 182 :: 0 :: 199 :: TL_law_523
def TL_law_519 : List UInt8 := 46 :: TL_law_520
def TL_law_518 : List UInt8 := 96 :: TL_law_519
def TL_law_517 : List UInt8 := 5 :: TL_law_518
def TL_law_515 : List UInt8 := 21 :: 4 :: TL_law_517
def TL_law_514 : List UInt8 := 42 :: TL_law_515
def TL_law_513 : List UInt8 := 46 :: TL_law_514
def TL_law_512 : List UInt8 := 96 :: TL_law_513
def TL_law_511 : List UInt8 := 4 :: TL_law_512
def TL_law_509 : List UInt8 := 21 :: 4 :: TL_law_511
def TL_law_508 : List UInt8 := 42 :: TL_law_509
def TL_law_507 : List UInt8 := 44 :: TL_law_508
def TL_law_505 : List UInt8 := 54 :: 5 :: TL_law_507
def TL_law_502 : List UInt8 := 184 :: 0 :: 197 :: TL_law_505
def TL_law_501 : List UInt8 := 45 :: TL_law_502
def TL_law_500 : List UInt8 := 46 :: TL_law_501
def TL_law_499 : List UInt8 := 96 :: TL_law_500
def TL_law_498 : List UInt8 := 5 :: TL_law_499
def TL_law_496 : List UInt8 := 21 :: 4 :: TL_law_498
def TL_law_495 : List UInt8 := 42 :: TL_law_496
def TL_law_494 : List UInt8 := 46 :: TL_law_495
def TL_law_493 : List UInt8 := 96 :: TL_law_494
def TL_law_492 : List UInt8 := 4 :: TL_law_493
def TL_law_490 : List UInt8 := 21 :: 4 :: TL_law_492
def TL_law_489 : List UInt8 := 42 :: TL_law_490
def TL_law_488 : List UInt8 := 43 :: TL_law_489
def TL_law_485 : List UInt8 := 167 :: 6 :: 192 :: TL_law_488
def TL_law_483 : List UInt8 := 58 :: 6 :: TL_law_485
def TL_law_480 : List UInt8 := 182 :: 0 :: 196 :: TL_law_483
def TL_law_479 : List UInt8 := 46 :: TL_law_480
def TL_law_478 : List UInt8 := 96 :: TL_law_479
def TL_law_477 : List UInt8 := 6 :: TL_law_478
def TL_law_475 : List UInt8 := 21 :: 4 :: TL_law_477
def TL_law_474 : List UInt8 := 42 :: TL_law_475
def TL_law_473 : List UInt8 := 46 :: TL_law_474
def TL_law_472 : List UInt8 := 96 :: TL_law_473
def TL_law_471 : List UInt8 := 5 :: TL_law_472
def TL_law_469 : List UInt8 := 21 :: 4 :: TL_law_471
def TL_law_468 : List UInt8 := 42 :: TL_law_469
def TL_law_467 : List UInt8 := 46 :: TL_law_468
def TL_law_466 : List UInt8 := 96 :: TL_law_467
def TL_law_465 : List UInt8 := 4 :: TL_law_466
def TL_law_463 : List UInt8 := 21 :: 4 :: TL_law_465
def TL_law_462 : List UInt8 := 42 :: TL_law_463
def TL_law_461 : List UInt8 := 44 :: TL_law_462
def TL_law_459 : List UInt8 := 54 :: 5 :: TL_law_461
def TL_law_456 : List UInt8 := 184 :: 0 :: 193 :: TL_law_459
def TL_law_455 : List UInt8 := 45 :: TL_law_456
def TL_law_454 : List UInt8 := 46 :: TL_law_455
def TL_law_453 : List UInt8 := 96 :: TL_law_454
def TL_law_452 : List UInt8 := 6 :: TL_law_453
def TL_law_450 : List UInt8 := 21 :: 4 :: TL_law_452
def TL_law_449 : List UInt8 := 42 :: TL_law_450
def TL_law_448 : List UInt8 := 46 :: TL_law_449
def TL_law_447 : List UInt8 := 96 :: TL_law_448
def TL_law_446 : List UInt8 := 5 :: TL_law_447
def TL_law_444 : List UInt8 := 21 :: 4 :: TL_law_446
def TL_law_443 : List UInt8 := 42 :: TL_law_444
def TL_law_442 : List UInt8 := 46 :: TL_law_443
def TL_law_441 : List UInt8 := 96 :: TL_law_442
def TL_law_440 : List UInt8 := 4 :: TL_law_441
def TL_law_438 : List UInt8 := 21 :: 4 :: TL_law_440
def TL_law_437 : List UInt8 := 42 :: TL_law_438
def TL_law_436 : List UInt8 := 43 :: TL_law_437
def TL_law_433 : List UInt8 := 167 :: 6 :: 244 :: TL_law_436
def TL_law_431 : List UInt8 := 54 :: 6 :: TL_law_433
def TL_law_428 : List UInt8 := 182 :: 0 :: 192 :: TL_law_431
def TL_law_427 : List UInt8 := 46 :: TL_law_428
def TL_law_426 : List UInt8 := 96 :: TL_law_427
def TL_law_425 : List UInt8 := 5 :: TL_law_426
def TL_law_423 : List UInt8 := 21 :: 4 :: TL_law_425
def TL_law_422 : List UInt8 := 42 :: TL_law_423
def TL_law_421 : List UInt8 := 46 :: TL_law_422
def TL_law_420 : List UInt8 := 96 :: TL_law_421
def TL_law_419 : List UInt8 := 4 :: TL_law_420
def TL_law_417 : List UInt8 := 21 :: 4 :: TL_law_419
def TL_law_416 : List UInt8 := 42 :: TL_law_417
def TL_law_415 : List UInt8 := 44 :: TL_law_416
def TL_law_413 : List UInt8 := 54 :: 5 :: TL_law_415
def TL_law_410 : List UInt8 := 184 :: 0 :: 190 :: TL_law_413
def TL_law_409 : List UInt8 := 45 :: TL_law_410
def TL_law_408 : List UInt8 := 46 :: TL_law_409
def TL_law_407 : List UInt8 := 96 :: TL_law_408
def TL_law_406 : List UInt8 := 5 :: TL_law_407
def TL_law_404 : List UInt8 := 21 :: 4 :: TL_law_406
def TL_law_403 : List UInt8 := 42 :: TL_law_404
def TL_law_402 : List UInt8 := 46 :: TL_law_403
def TL_law_401 : List UInt8 := 96 :: TL_law_402
def TL_law_400 : List UInt8 := 4 :: TL_law_401
def TL_law_398 : List UInt8 := 21 :: 4 :: TL_law_400
def TL_law_397 : List UInt8 := 42 :: TL_law_398
def TL_law_396 : List UInt8 := 43 :: TL_law_397
def TL_law_393 : List UInt8 := 167 :: 7 :: 28 :: TL_law_396
def TL_law_391 : List UInt8 := 54 :: 6 :: TL_law_393
def TL_law_388 : List UInt8 := 182 :: 0 :: 189 :: TL_law_391
def TL_law_387 : List UInt8 := 46 :: TL_law_388
def TL_law_386 : List UInt8 := 96 :: TL_law_387
def TL_law_385 : List UInt8 := 5 :: TL_law_386
def TL_law_383 : List UInt8 := 21 :: 4 :: TL_law_385
def TL_law_382 : List UInt8 := 42 :: TL_law_383
def TL_law_381 : List UInt8 := 46 :: TL_law_382
def TL_law_380 : List UInt8 := 96 :: TL_law_381
def TL_law_379 : List UInt8 := 4 :: TL_law_380
def TL_law_377 : List UInt8 := 21 :: 4 :: TL_law_379
def TL_law_376 : List UInt8 := 42 :: TL_law_377
def TL_law_375 : List UInt8 := 44 :: TL_law_376
def TL_law_373 : List UInt8 := 54 :: 5 :: TL_law_375
def TL_law_370 : List UInt8 := 184 :: 0 :: 187 :: TL_law_373
def TL_law_369 : List UInt8 := 45 :: TL_law_370
def TL_law_368 : List UInt8 := 46 :: TL_law_369
def TL_law_367 : List UInt8 := 96 :: TL_law_368
def TL_law_366 : List UInt8 := 5 :: TL_law_367
def TL_law_364 : List UInt8 := 21 :: 4 :: TL_law_366
def TL_law_363 : List UInt8 := 42 :: TL_law_364
def TL_law_362 : List UInt8 := 46 :: TL_law_363
def TL_law_361 : List UInt8 := 96 :: TL_law_362
def TL_law_360 : List UInt8 := 4 :: TL_law_361
def TL_law_358 : List UInt8 := 21 :: 4 :: TL_law_360
def TL_law_357 : List UInt8 := 42 :: TL_law_358
def TL_law_356 : List UInt8 := 43 :: TL_law_357
def TL_law_353 : List UInt8 := 167 :: 7 :: 68 :: TL_law_356
def TL_law_351 : List UInt8 := 54 :: 6 :: TL_law_353
def TL_law_348 : List UInt8 := 182 :: 0 :: 186 :: TL_law_351
def TL_law_347 : List UInt8 := 46 :: TL_law_348
def TL_law_346 : List UInt8 := 96 :: TL_law_347
def TL_law_345 : List UInt8 := 4 :: TL_law_346
def TL_law_343 : List UInt8 := 21 :: 4 :: TL_law_345
def TL_law_342 : List UInt8 := 42 :: TL_law_343
def TL_law_341 : List UInt8 := 44 :: TL_law_342
def TL_law_339 : List UInt8 := 54 :: 5 :: TL_law_341
def TL_law_336 : List UInt8 := 184 :: 0 :: 183 :: TL_law_339
def TL_law_335 : List UInt8 := 45 :: TL_law_336
def TL_law_334 : List UInt8 := 46 :: TL_law_335
def TL_law_333 : List UInt8 := 96 :: TL_law_334
def TL_law_332 : List UInt8 := 4 :: TL_law_333
def TL_law_330 : List UInt8 := 21 :: 4 :: TL_law_332
def TL_law_329 : List UInt8 := 42 :: TL_law_330
def TL_law_328 : List UInt8 := 43 :: TL_law_329
def TL_law_325 : List UInt8 := 167 :: 7 :: 96 :: TL_law_328
def TL_law_323 : List UInt8 := 54 :: 6 :: TL_law_325
def TL_law_320 : List UInt8 := 182 :: 0 :: 182 :: TL_law_323
def TL_law_319 : List UInt8 := 46 :: TL_law_320
def TL_law_318 : List UInt8 := 96 :: TL_law_319
def TL_law_317 : List UInt8 := 5 :: TL_law_318
def TL_law_315 : List UInt8 := 21 :: 4 :: TL_law_317
def TL_law_314 : List UInt8 := 42 :: TL_law_315
def TL_law_313 : List UInt8 := 46 :: TL_law_314
def TL_law_312 : List UInt8 := 96 :: TL_law_313
def TL_law_311 : List UInt8 := 4 :: TL_law_312
def TL_law_309 : List UInt8 := 21 :: 4 :: TL_law_311
def TL_law_308 : List UInt8 := 42 :: TL_law_309
def TL_law_307 : List UInt8 := 44 :: TL_law_308
def TL_law_305 : List UInt8 := 54 :: 5 :: TL_law_307
def TL_law_302 : List UInt8 := 184 :: 0 :: 180 :: TL_law_305
def TL_law_301 : List UInt8 := 45 :: TL_law_302
def TL_law_300 : List UInt8 := 46 :: TL_law_301
def TL_law_299 : List UInt8 := 96 :: TL_law_300
def TL_law_298 : List UInt8 := 5 :: TL_law_299
def TL_law_296 : List UInt8 := 21 :: 4 :: TL_law_298
def TL_law_295 : List UInt8 := 42 :: TL_law_296
def TL_law_294 : List UInt8 := 46 :: TL_law_295
def TL_law_293 : List UInt8 := 96 :: TL_law_294
def TL_law_292 : List UInt8 := 4 :: TL_law_293
def TL_law_290 : List UInt8 := 21 :: 4 :: TL_law_292
def TL_law_289 : List UInt8 := 42 :: TL_law_290
def TL_law_288 : List UInt8 := 43 :: TL_law_289
def TL_law_285 : List UInt8 := 167 :: 7 :: 136 :: TL_law_288
def TL_law_283 : List UInt8 := 54 :: 6 :: TL_law_285
def TL_law_280 : List UInt8 := 182 :: 0 :: 179 :: TL_law_283
def TL_law_279 : List UInt8 := 46 :: TL_law_280
def TL_law_278 : List UInt8 := 96 :: TL_law_279
def TL_law_277 : List UInt8 := 5 :: TL_law_278
def TL_law_275 : List UInt8 := 21 :: 4 :: TL_law_277
def TL_law_274 : List UInt8 := 42 :: TL_law_275
def TL_law_273 : List UInt8 := 46 :: TL_law_274
def TL_law_272 : List UInt8 := 96 :: TL_law_273
def TL_law_271 : List UInt8 := 4 :: TL_law_272
def TL_law_269 : List UInt8 := 21 :: 4 :: TL_law_271
def TL_law_268 : List UInt8 := 42 :: TL_law_269
def TL_law_267 : List UInt8 := 44 :: TL_law_268
def TL_law_265 : List UInt8 := 54 :: 5 :: TL_law_267
def TL_law_262 : List UInt8 := 184 :: 0 :: 174 :: TL_law_265
def TL_law_261 : List UInt8 := 45 :: TL_law_262
def TL_law_260 : List UInt8 := 46 :: TL_law_261
def TL_law_259 : List UInt8 := 96 :: TL_law_260
def TL_law_258 : List UInt8 := 5 :: TL_law_259
def TL_law_256 : List UInt8 := 21 :: 4 :: TL_law_258
def TL_law_255 : List UInt8 := 42 :: TL_law_256
def TL_law_254 : List UInt8 := 46 :: TL_law_255
def TL_law_253 : List UInt8 := 96 :: TL_law_254
def TL_law_252 : List UInt8 := 4 :: TL_law_253
def TL_law_250 : List UInt8 := 21 :: 4 :: TL_law_252
def TL_law_249 : List UInt8 := 42 :: TL_law_250
def TL_law_248 : List UInt8 := 43 :: TL_law_249
def TL_law_43 : List UInt8 := 170 :: 0 :: 0 :: 8 :: 122 :: 0 :: 0 :: 0 :: 0 :: 0 :: 0 :: 0 :: 47 :: 0 :: 0 :: 0 :: 205 :: 0 :: 0 :: 0 :: 245 :: 0 :: 0 :: 1 :: 29 :: 0 :: 0 :: 1 :: 57 :: 0 :: 0 :: 1 :: 97 :: 0 :: 0 :: 1 :: 137 :: 0 :: 0 :: 1 :: 189 :: 0 :: 0 :: 1 :: 229 :: 0 :: 0 :: 2 :: 41 :: 0 :: 0 :: 2 :: 109 :: 0 :: 0 :: 2 :: 149 :: 0 :: 0 :: 2 :: 189 :: 0 :: 0 :: 2 :: 229 :: 0 :: 0 :: 3 :: 1 :: 0 :: 0 :: 3 :: 41 :: 0 :: 0 :: 3 :: 69 :: 0 :: 0 :: 3 :: 97 :: 0 :: 0 :: 3 :: 153 :: 0 :: 0 :: 3 :: 209 :: 0 :: 0 :: 3 :: 237 :: 0 :: 0 :: 4 :: 45 :: 0 :: 0 :: 4 :: 85 :: 0 :: 0 :: 4 :: 125 :: 0 :: 0 :: 4 :: 177 :: 0 :: 0 :: 4 :: 217 :: 0 :: 0 :: 5 :: 46 :: 0 :: 0 :: 5 :: 86 :: 0 :: 0 :: 5 :: 126 :: 0 :: 0 :: 5 :: 154 :: 0 :: 0 :: 5 :: 210 :: 0 :: 0 :: 5 :: 238 :: 0 :: 0 :: 6 :: 50 :: 0 :: 0 :: 6 :: 78 :: 0 :: 0 :: 6 :: 146 :: 0 :: 0 :: 6 :: 186 :: 0 :: 0 :: 6 :: 255 :: 0 :: 0 :: 7 :: 39 :: 0 :: 0 :: 7 :: 67 :: 0 :: 0 :: 7 :: 95 :: 0 :: 0 :: 7 :: 135 :: 0 :: 0 :: 7 :: 163 :: 0 :: 0 :: 7 :: 203 :: 0 :: 0 :: 7 :: 243 :: 0 :: 0 :: 8 :: 27 :: 0 :: 0 :: 8 :: 55 :: 0 :: 0 :: 8 :: 83 :: 0 :: 0 :: 8 :: 96 :: 0 :: 0 :: 8 :: 109 :: TL_law_248
def TL_law_42 : List UInt8 := 126 :: TL_law_43
def TL_law_40 : List UInt8 := 16 :: 63 :: TL_law_42
def TL_law_39 : List UInt8 := 46 :: TL_law_40
def TL_law_37 : List UInt8 := 21 :: 4 :: TL_law_39
def TL_law_36 : List UInt8 := 42 :: TL_law_37
def TL_law_33 : List UInt8 := 163 :: 8 :: 138 :: TL_law_36
def TL_law_32 : List UInt8 := 100 :: TL_law_33
def TL_law_31 : List UInt8 := 8 :: TL_law_32
def TL_law_30 : List UInt8 := 190 :: TL_law_31
def TL_law_29 : List UInt8 := 42 :: TL_law_30
def TL_law_27 : List UInt8 := 21 :: 4 :: TL_law_29
def TL_law_25 : List UInt8 := 54 :: 4 :: TL_law_27
def TL_law_24 : List UInt8 := 3 :: TL_law_25
def TL_law_23 : List UInt8 := 78 :: TL_law_24
def TL_law_20 : List UInt8 := 183 :: 0 :: 173 :: TL_law_23
def TL_law_19 : List UInt8 := 89 :: TL_law_20
def TL_law_16 : List UInt8 := 187 :: 0 :: 14 :: TL_law_19
def TL_law_15 : List UInt8 := 77 :: TL_law_16
def TL_law_12 : List UInt8 := 183 :: 0 :: 172 :: TL_law_15
def TL_law_11 : List UInt8 := 89 :: TL_law_12
def TL_law_8 : List UInt8 := 187 :: 0 :: 170 :: TL_law_11
def TL_law_7 : List UInt8 := 76 :: TL_law_8
def TL_law_4 : List UInt8 := 183 :: 0 :: 169 :: TL_law_7
def TL_law_3 : List UInt8 := 89 :: TL_law_4
def TL_law_0 : List UInt8 := 187 :: 0 :: 8 :: TL_law_3
theorem DL_law_0 : cL_law.data.toList.drop 0 = TL_law_0 := by decide +kernel
theorem DL_law_3 : cL_law.data.toList.drop 3 = TL_law_3 := dr3 DL_law_0
theorem DL_law_4 : cL_law.data.toList.drop 4 = TL_law_4 := dr1 DL_law_3
theorem DL_law_7 : cL_law.data.toList.drop 7 = TL_law_7 := dr3 DL_law_4
theorem DL_law_8 : cL_law.data.toList.drop 8 = TL_law_8 := dr1 DL_law_7
theorem DL_law_11 : cL_law.data.toList.drop 11 = TL_law_11 := dr3 DL_law_8
theorem DL_law_12 : cL_law.data.toList.drop 12 = TL_law_12 := dr1 DL_law_11
theorem DL_law_15 : cL_law.data.toList.drop 15 = TL_law_15 := dr3 DL_law_12
theorem DL_law_16 : cL_law.data.toList.drop 16 = TL_law_16 := dr1 DL_law_15
theorem DL_law_19 : cL_law.data.toList.drop 19 = TL_law_19 := dr3 DL_law_16
theorem DL_law_20 : cL_law.data.toList.drop 20 = TL_law_20 := dr1 DL_law_19
theorem DL_law_23 : cL_law.data.toList.drop 23 = TL_law_23 := dr3 DL_law_20
theorem DL_law_24 : cL_law.data.toList.drop 24 = TL_law_24 := dr1 DL_law_23
theorem DL_law_25 : cL_law.data.toList.drop 25 = TL_law_25 := dr1 DL_law_24
theorem DL_law_27 : cL_law.data.toList.drop 27 = TL_law_27 := dr2 DL_law_25
theorem DL_law_29 : cL_law.data.toList.drop 29 = TL_law_29 := dr2 DL_law_27
theorem DL_law_30 : cL_law.data.toList.drop 30 = TL_law_30 := dr1 DL_law_29
theorem DL_law_31 : cL_law.data.toList.drop 31 = TL_law_31 := dr1 DL_law_30
theorem DL_law_32 : cL_law.data.toList.drop 32 = TL_law_32 := dr1 DL_law_31
theorem DL_law_33 : cL_law.data.toList.drop 33 = TL_law_33 := dr1 DL_law_32
theorem DL_law_36 : cL_law.data.toList.drop 36 = TL_law_36 := dr3 DL_law_33
theorem DL_law_37 : cL_law.data.toList.drop 37 = TL_law_37 := dr1 DL_law_36
theorem DL_law_39 : cL_law.data.toList.drop 39 = TL_law_39 := dr2 DL_law_37
theorem DL_law_40 : cL_law.data.toList.drop 40 = TL_law_40 := dr1 DL_law_39
theorem DL_law_42 : cL_law.data.toList.drop 42 = TL_law_42 := dr2 DL_law_40
theorem DL_law_43 : cL_law.data.toList.drop 43 = TL_law_43 := dr1 DL_law_42
theorem DL_law_248 : cL_law.data.toList.drop 248 = TL_law_248 := drk 205 DL_law_43 (by decide +kernel)
theorem DL_law_249 : cL_law.data.toList.drop 249 = TL_law_249 := dr1 DL_law_248
theorem DL_law_250 : cL_law.data.toList.drop 250 = TL_law_250 := dr1 DL_law_249
theorem DL_law_252 : cL_law.data.toList.drop 252 = TL_law_252 := dr2 DL_law_250
theorem DL_law_253 : cL_law.data.toList.drop 253 = TL_law_253 := dr1 DL_law_252
theorem DL_law_254 : cL_law.data.toList.drop 254 = TL_law_254 := dr1 DL_law_253
theorem DL_law_255 : cL_law.data.toList.drop 255 = TL_law_255 := dr1 DL_law_254
theorem DL_law_256 : cL_law.data.toList.drop 256 = TL_law_256 := dr1 DL_law_255
theorem DL_law_258 : cL_law.data.toList.drop 258 = TL_law_258 := dr2 DL_law_256
theorem DL_law_259 : cL_law.data.toList.drop 259 = TL_law_259 := dr1 DL_law_258
theorem DL_law_260 : cL_law.data.toList.drop 260 = TL_law_260 := dr1 DL_law_259
theorem DL_law_261 : cL_law.data.toList.drop 261 = TL_law_261 := dr1 DL_law_260
theorem DL_law_262 : cL_law.data.toList.drop 262 = TL_law_262 := dr1 DL_law_261
theorem DL_law_265 : cL_law.data.toList.drop 265 = TL_law_265 := dr3 DL_law_262
theorem DL_law_267 : cL_law.data.toList.drop 267 = TL_law_267 := dr2 DL_law_265
theorem DL_law_268 : cL_law.data.toList.drop 268 = TL_law_268 := dr1 DL_law_267
theorem DL_law_269 : cL_law.data.toList.drop 269 = TL_law_269 := dr1 DL_law_268
theorem DL_law_271 : cL_law.data.toList.drop 271 = TL_law_271 := dr2 DL_law_269
theorem DL_law_272 : cL_law.data.toList.drop 272 = TL_law_272 := dr1 DL_law_271
theorem DL_law_273 : cL_law.data.toList.drop 273 = TL_law_273 := dr1 DL_law_272
theorem DL_law_274 : cL_law.data.toList.drop 274 = TL_law_274 := dr1 DL_law_273
theorem DL_law_275 : cL_law.data.toList.drop 275 = TL_law_275 := dr1 DL_law_274
theorem DL_law_277 : cL_law.data.toList.drop 277 = TL_law_277 := dr2 DL_law_275
theorem DL_law_278 : cL_law.data.toList.drop 278 = TL_law_278 := dr1 DL_law_277
theorem DL_law_279 : cL_law.data.toList.drop 279 = TL_law_279 := dr1 DL_law_278
theorem DL_law_280 : cL_law.data.toList.drop 280 = TL_law_280 := dr1 DL_law_279
theorem DL_law_283 : cL_law.data.toList.drop 283 = TL_law_283 := dr3 DL_law_280
theorem DL_law_285 : cL_law.data.toList.drop 285 = TL_law_285 := dr2 DL_law_283
theorem DL_law_288 : cL_law.data.toList.drop 288 = TL_law_288 := dr3 DL_law_285
theorem DL_law_289 : cL_law.data.toList.drop 289 = TL_law_289 := dr1 DL_law_288
theorem DL_law_290 : cL_law.data.toList.drop 290 = TL_law_290 := dr1 DL_law_289
theorem DL_law_292 : cL_law.data.toList.drop 292 = TL_law_292 := dr2 DL_law_290
theorem DL_law_293 : cL_law.data.toList.drop 293 = TL_law_293 := dr1 DL_law_292
theorem DL_law_294 : cL_law.data.toList.drop 294 = TL_law_294 := dr1 DL_law_293
theorem DL_law_295 : cL_law.data.toList.drop 295 = TL_law_295 := dr1 DL_law_294
theorem DL_law_296 : cL_law.data.toList.drop 296 = TL_law_296 := dr1 DL_law_295
theorem DL_law_298 : cL_law.data.toList.drop 298 = TL_law_298 := dr2 DL_law_296
theorem DL_law_299 : cL_law.data.toList.drop 299 = TL_law_299 := dr1 DL_law_298
theorem DL_law_300 : cL_law.data.toList.drop 300 = TL_law_300 := dr1 DL_law_299
theorem DL_law_301 : cL_law.data.toList.drop 301 = TL_law_301 := dr1 DL_law_300
theorem DL_law_302 : cL_law.data.toList.drop 302 = TL_law_302 := dr1 DL_law_301
theorem DL_law_305 : cL_law.data.toList.drop 305 = TL_law_305 := dr3 DL_law_302
theorem DL_law_307 : cL_law.data.toList.drop 307 = TL_law_307 := dr2 DL_law_305
theorem DL_law_308 : cL_law.data.toList.drop 308 = TL_law_308 := dr1 DL_law_307
theorem DL_law_309 : cL_law.data.toList.drop 309 = TL_law_309 := dr1 DL_law_308
theorem DL_law_311 : cL_law.data.toList.drop 311 = TL_law_311 := dr2 DL_law_309
theorem DL_law_312 : cL_law.data.toList.drop 312 = TL_law_312 := dr1 DL_law_311
theorem DL_law_313 : cL_law.data.toList.drop 313 = TL_law_313 := dr1 DL_law_312
theorem DL_law_314 : cL_law.data.toList.drop 314 = TL_law_314 := dr1 DL_law_313
theorem DL_law_315 : cL_law.data.toList.drop 315 = TL_law_315 := dr1 DL_law_314
theorem DL_law_317 : cL_law.data.toList.drop 317 = TL_law_317 := dr2 DL_law_315
theorem DL_law_318 : cL_law.data.toList.drop 318 = TL_law_318 := dr1 DL_law_317
theorem DL_law_319 : cL_law.data.toList.drop 319 = TL_law_319 := dr1 DL_law_318
theorem DL_law_320 : cL_law.data.toList.drop 320 = TL_law_320 := dr1 DL_law_319
theorem DL_law_323 : cL_law.data.toList.drop 323 = TL_law_323 := dr3 DL_law_320
theorem DL_law_325 : cL_law.data.toList.drop 325 = TL_law_325 := dr2 DL_law_323
theorem DL_law_328 : cL_law.data.toList.drop 328 = TL_law_328 := dr3 DL_law_325
theorem DL_law_329 : cL_law.data.toList.drop 329 = TL_law_329 := dr1 DL_law_328
theorem DL_law_330 : cL_law.data.toList.drop 330 = TL_law_330 := dr1 DL_law_329
theorem DL_law_332 : cL_law.data.toList.drop 332 = TL_law_332 := dr2 DL_law_330
theorem DL_law_333 : cL_law.data.toList.drop 333 = TL_law_333 := dr1 DL_law_332
theorem DL_law_334 : cL_law.data.toList.drop 334 = TL_law_334 := dr1 DL_law_333
theorem DL_law_335 : cL_law.data.toList.drop 335 = TL_law_335 := dr1 DL_law_334
theorem DL_law_336 : cL_law.data.toList.drop 336 = TL_law_336 := dr1 DL_law_335
theorem DL_law_339 : cL_law.data.toList.drop 339 = TL_law_339 := dr3 DL_law_336
theorem DL_law_341 : cL_law.data.toList.drop 341 = TL_law_341 := dr2 DL_law_339
theorem DL_law_342 : cL_law.data.toList.drop 342 = TL_law_342 := dr1 DL_law_341
theorem DL_law_343 : cL_law.data.toList.drop 343 = TL_law_343 := dr1 DL_law_342
theorem DL_law_345 : cL_law.data.toList.drop 345 = TL_law_345 := dr2 DL_law_343
theorem DL_law_346 : cL_law.data.toList.drop 346 = TL_law_346 := dr1 DL_law_345
theorem DL_law_347 : cL_law.data.toList.drop 347 = TL_law_347 := dr1 DL_law_346
theorem DL_law_348 : cL_law.data.toList.drop 348 = TL_law_348 := dr1 DL_law_347
theorem DL_law_351 : cL_law.data.toList.drop 351 = TL_law_351 := dr3 DL_law_348
theorem DL_law_353 : cL_law.data.toList.drop 353 = TL_law_353 := dr2 DL_law_351
theorem DL_law_356 : cL_law.data.toList.drop 356 = TL_law_356 := dr3 DL_law_353
theorem DL_law_357 : cL_law.data.toList.drop 357 = TL_law_357 := dr1 DL_law_356
theorem DL_law_358 : cL_law.data.toList.drop 358 = TL_law_358 := dr1 DL_law_357
theorem DL_law_360 : cL_law.data.toList.drop 360 = TL_law_360 := dr2 DL_law_358
theorem DL_law_361 : cL_law.data.toList.drop 361 = TL_law_361 := dr1 DL_law_360
theorem DL_law_362 : cL_law.data.toList.drop 362 = TL_law_362 := dr1 DL_law_361
theorem DL_law_363 : cL_law.data.toList.drop 363 = TL_law_363 := dr1 DL_law_362
theorem DL_law_364 : cL_law.data.toList.drop 364 = TL_law_364 := dr1 DL_law_363
theorem DL_law_366 : cL_law.data.toList.drop 366 = TL_law_366 := dr2 DL_law_364
theorem DL_law_367 : cL_law.data.toList.drop 367 = TL_law_367 := dr1 DL_law_366
theorem DL_law_368 : cL_law.data.toList.drop 368 = TL_law_368 := dr1 DL_law_367
theorem DL_law_369 : cL_law.data.toList.drop 369 = TL_law_369 := dr1 DL_law_368
theorem DL_law_370 : cL_law.data.toList.drop 370 = TL_law_370 := dr1 DL_law_369
theorem DL_law_373 : cL_law.data.toList.drop 373 = TL_law_373 := dr3 DL_law_370
theorem DL_law_375 : cL_law.data.toList.drop 375 = TL_law_375 := dr2 DL_law_373
theorem DL_law_376 : cL_law.data.toList.drop 376 = TL_law_376 := dr1 DL_law_375
theorem DL_law_377 : cL_law.data.toList.drop 377 = TL_law_377 := dr1 DL_law_376
theorem DL_law_379 : cL_law.data.toList.drop 379 = TL_law_379 := dr2 DL_law_377
theorem DL_law_380 : cL_law.data.toList.drop 380 = TL_law_380 := dr1 DL_law_379
theorem DL_law_381 : cL_law.data.toList.drop 381 = TL_law_381 := dr1 DL_law_380
theorem DL_law_382 : cL_law.data.toList.drop 382 = TL_law_382 := dr1 DL_law_381
theorem DL_law_383 : cL_law.data.toList.drop 383 = TL_law_383 := dr1 DL_law_382
theorem DL_law_385 : cL_law.data.toList.drop 385 = TL_law_385 := dr2 DL_law_383
theorem DL_law_386 : cL_law.data.toList.drop 386 = TL_law_386 := dr1 DL_law_385
theorem DL_law_387 : cL_law.data.toList.drop 387 = TL_law_387 := dr1 DL_law_386
theorem DL_law_388 : cL_law.data.toList.drop 388 = TL_law_388 := dr1 DL_law_387
theorem DL_law_391 : cL_law.data.toList.drop 391 = TL_law_391 := dr3 DL_law_388
theorem DL_law_393 : cL_law.data.toList.drop 393 = TL_law_393 := dr2 DL_law_391
theorem DL_law_396 : cL_law.data.toList.drop 396 = TL_law_396 := dr3 DL_law_393
theorem DL_law_397 : cL_law.data.toList.drop 397 = TL_law_397 := dr1 DL_law_396
theorem DL_law_398 : cL_law.data.toList.drop 398 = TL_law_398 := dr1 DL_law_397
theorem DL_law_400 : cL_law.data.toList.drop 400 = TL_law_400 := dr2 DL_law_398
theorem DL_law_401 : cL_law.data.toList.drop 401 = TL_law_401 := dr1 DL_law_400
theorem DL_law_402 : cL_law.data.toList.drop 402 = TL_law_402 := dr1 DL_law_401
theorem DL_law_403 : cL_law.data.toList.drop 403 = TL_law_403 := dr1 DL_law_402
theorem DL_law_404 : cL_law.data.toList.drop 404 = TL_law_404 := dr1 DL_law_403
theorem DL_law_406 : cL_law.data.toList.drop 406 = TL_law_406 := dr2 DL_law_404
theorem DL_law_407 : cL_law.data.toList.drop 407 = TL_law_407 := dr1 DL_law_406
theorem DL_law_408 : cL_law.data.toList.drop 408 = TL_law_408 := dr1 DL_law_407
theorem DL_law_409 : cL_law.data.toList.drop 409 = TL_law_409 := dr1 DL_law_408
theorem DL_law_410 : cL_law.data.toList.drop 410 = TL_law_410 := dr1 DL_law_409
theorem DL_law_413 : cL_law.data.toList.drop 413 = TL_law_413 := dr3 DL_law_410
theorem DL_law_415 : cL_law.data.toList.drop 415 = TL_law_415 := dr2 DL_law_413
theorem DL_law_416 : cL_law.data.toList.drop 416 = TL_law_416 := dr1 DL_law_415
theorem DL_law_417 : cL_law.data.toList.drop 417 = TL_law_417 := dr1 DL_law_416
theorem DL_law_419 : cL_law.data.toList.drop 419 = TL_law_419 := dr2 DL_law_417
theorem DL_law_420 : cL_law.data.toList.drop 420 = TL_law_420 := dr1 DL_law_419
theorem DL_law_421 : cL_law.data.toList.drop 421 = TL_law_421 := dr1 DL_law_420
theorem DL_law_422 : cL_law.data.toList.drop 422 = TL_law_422 := dr1 DL_law_421
theorem DL_law_423 : cL_law.data.toList.drop 423 = TL_law_423 := dr1 DL_law_422
theorem DL_law_425 : cL_law.data.toList.drop 425 = TL_law_425 := dr2 DL_law_423
theorem DL_law_426 : cL_law.data.toList.drop 426 = TL_law_426 := dr1 DL_law_425
theorem DL_law_427 : cL_law.data.toList.drop 427 = TL_law_427 := dr1 DL_law_426
theorem DL_law_428 : cL_law.data.toList.drop 428 = TL_law_428 := dr1 DL_law_427
theorem DL_law_431 : cL_law.data.toList.drop 431 = TL_law_431 := dr3 DL_law_428
theorem DL_law_433 : cL_law.data.toList.drop 433 = TL_law_433 := dr2 DL_law_431
theorem DL_law_436 : cL_law.data.toList.drop 436 = TL_law_436 := dr3 DL_law_433
theorem DL_law_437 : cL_law.data.toList.drop 437 = TL_law_437 := dr1 DL_law_436
theorem DL_law_438 : cL_law.data.toList.drop 438 = TL_law_438 := dr1 DL_law_437
theorem DL_law_440 : cL_law.data.toList.drop 440 = TL_law_440 := dr2 DL_law_438
theorem DL_law_441 : cL_law.data.toList.drop 441 = TL_law_441 := dr1 DL_law_440
theorem DL_law_442 : cL_law.data.toList.drop 442 = TL_law_442 := dr1 DL_law_441
theorem DL_law_443 : cL_law.data.toList.drop 443 = TL_law_443 := dr1 DL_law_442
theorem DL_law_444 : cL_law.data.toList.drop 444 = TL_law_444 := dr1 DL_law_443
theorem DL_law_446 : cL_law.data.toList.drop 446 = TL_law_446 := dr2 DL_law_444
theorem DL_law_447 : cL_law.data.toList.drop 447 = TL_law_447 := dr1 DL_law_446
theorem DL_law_448 : cL_law.data.toList.drop 448 = TL_law_448 := dr1 DL_law_447
theorem DL_law_449 : cL_law.data.toList.drop 449 = TL_law_449 := dr1 DL_law_448
theorem DL_law_450 : cL_law.data.toList.drop 450 = TL_law_450 := dr1 DL_law_449
theorem DL_law_452 : cL_law.data.toList.drop 452 = TL_law_452 := dr2 DL_law_450
theorem DL_law_453 : cL_law.data.toList.drop 453 = TL_law_453 := dr1 DL_law_452
theorem DL_law_454 : cL_law.data.toList.drop 454 = TL_law_454 := dr1 DL_law_453
theorem DL_law_455 : cL_law.data.toList.drop 455 = TL_law_455 := dr1 DL_law_454
theorem DL_law_456 : cL_law.data.toList.drop 456 = TL_law_456 := dr1 DL_law_455
theorem DL_law_459 : cL_law.data.toList.drop 459 = TL_law_459 := dr3 DL_law_456
theorem DL_law_461 : cL_law.data.toList.drop 461 = TL_law_461 := dr2 DL_law_459
theorem DL_law_462 : cL_law.data.toList.drop 462 = TL_law_462 := dr1 DL_law_461
theorem DL_law_463 : cL_law.data.toList.drop 463 = TL_law_463 := dr1 DL_law_462
theorem DL_law_465 : cL_law.data.toList.drop 465 = TL_law_465 := dr2 DL_law_463
theorem DL_law_466 : cL_law.data.toList.drop 466 = TL_law_466 := dr1 DL_law_465
theorem DL_law_467 : cL_law.data.toList.drop 467 = TL_law_467 := dr1 DL_law_466
theorem DL_law_468 : cL_law.data.toList.drop 468 = TL_law_468 := dr1 DL_law_467
theorem DL_law_469 : cL_law.data.toList.drop 469 = TL_law_469 := dr1 DL_law_468
theorem DL_law_471 : cL_law.data.toList.drop 471 = TL_law_471 := dr2 DL_law_469
theorem DL_law_472 : cL_law.data.toList.drop 472 = TL_law_472 := dr1 DL_law_471
theorem DL_law_473 : cL_law.data.toList.drop 473 = TL_law_473 := dr1 DL_law_472
theorem DL_law_474 : cL_law.data.toList.drop 474 = TL_law_474 := dr1 DL_law_473
theorem DL_law_475 : cL_law.data.toList.drop 475 = TL_law_475 := dr1 DL_law_474
theorem DL_law_477 : cL_law.data.toList.drop 477 = TL_law_477 := dr2 DL_law_475
theorem DL_law_478 : cL_law.data.toList.drop 478 = TL_law_478 := dr1 DL_law_477
theorem DL_law_479 : cL_law.data.toList.drop 479 = TL_law_479 := dr1 DL_law_478
theorem DL_law_480 : cL_law.data.toList.drop 480 = TL_law_480 := dr1 DL_law_479
theorem DL_law_483 : cL_law.data.toList.drop 483 = TL_law_483 := dr3 DL_law_480
theorem DL_law_485 : cL_law.data.toList.drop 485 = TL_law_485 := dr2 DL_law_483
theorem DL_law_488 : cL_law.data.toList.drop 488 = TL_law_488 := dr3 DL_law_485
theorem DL_law_489 : cL_law.data.toList.drop 489 = TL_law_489 := dr1 DL_law_488
theorem DL_law_490 : cL_law.data.toList.drop 490 = TL_law_490 := dr1 DL_law_489
theorem DL_law_492 : cL_law.data.toList.drop 492 = TL_law_492 := dr2 DL_law_490
theorem DL_law_493 : cL_law.data.toList.drop 493 = TL_law_493 := dr1 DL_law_492
theorem DL_law_494 : cL_law.data.toList.drop 494 = TL_law_494 := dr1 DL_law_493
theorem DL_law_495 : cL_law.data.toList.drop 495 = TL_law_495 := dr1 DL_law_494
theorem DL_law_496 : cL_law.data.toList.drop 496 = TL_law_496 := dr1 DL_law_495
theorem DL_law_498 : cL_law.data.toList.drop 498 = TL_law_498 := dr2 DL_law_496
theorem DL_law_499 : cL_law.data.toList.drop 499 = TL_law_499 := dr1 DL_law_498
theorem DL_law_500 : cL_law.data.toList.drop 500 = TL_law_500 := dr1 DL_law_499
theorem DL_law_501 : cL_law.data.toList.drop 501 = TL_law_501 := dr1 DL_law_500
theorem DL_law_502 : cL_law.data.toList.drop 502 = TL_law_502 := dr1 DL_law_501
theorem DL_law_505 : cL_law.data.toList.drop 505 = TL_law_505 := dr3 DL_law_502
theorem DL_law_507 : cL_law.data.toList.drop 507 = TL_law_507 := dr2 DL_law_505
theorem DL_law_508 : cL_law.data.toList.drop 508 = TL_law_508 := dr1 DL_law_507
theorem DL_law_509 : cL_law.data.toList.drop 509 = TL_law_509 := dr1 DL_law_508
theorem DL_law_511 : cL_law.data.toList.drop 511 = TL_law_511 := dr2 DL_law_509
theorem DL_law_512 : cL_law.data.toList.drop 512 = TL_law_512 := dr1 DL_law_511
theorem DL_law_513 : cL_law.data.toList.drop 513 = TL_law_513 := dr1 DL_law_512
theorem DL_law_514 : cL_law.data.toList.drop 514 = TL_law_514 := dr1 DL_law_513
theorem DL_law_515 : cL_law.data.toList.drop 515 = TL_law_515 := dr1 DL_law_514
theorem DL_law_517 : cL_law.data.toList.drop 517 = TL_law_517 := dr2 DL_law_515
theorem DL_law_518 : cL_law.data.toList.drop 518 = TL_law_518 := dr1 DL_law_517
theorem DL_law_519 : cL_law.data.toList.drop 519 = TL_law_519 := dr1 DL_law_518
theorem DL_law_520 : cL_law.data.toList.drop 520 = TL_law_520 := dr1 DL_law_519
theorem DL_law_523 : cL_law.data.toList.drop 523 = TL_law_523 := dr3 DL_law_520
theorem DL_law_525 : cL_law.data.toList.drop 525 = TL_law_525 := dr2 DL_law_523
theorem DL_law_528 : cL_law.data.toList.drop 528 = TL_law_528 := dr3 DL_law_525
theorem DL_law_529 : cL_law.data.toList.drop 529 = TL_law_529 := dr1 DL_law_528
theorem DL_law_530 : cL_law.data.toList.drop 530 = TL_law_530 := dr1 DL_law_529
theorem DL_law_532 : cL_law.data.toList.drop 532 = TL_law_532 := dr2 DL_law_530
theorem DL_law_533 : cL_law.data.toList.drop 533 = TL_law_533 := dr1 DL_law_532
theorem DL_law_534 : cL_law.data.toList.drop 534 = TL_law_534 := dr1 DL_law_533
theorem DL_law_535 : cL_law.data.toList.drop 535 = TL_law_535 := dr1 DL_law_534
theorem DL_law_536 : cL_law.data.toList.drop 536 = TL_law_536 := dr1 DL_law_535
theorem DL_law_538 : cL_law.data.toList.drop 538 = TL_law_538 := dr2 DL_law_536
theorem DL_law_539 : cL_law.data.toList.drop 539 = TL_law_539 := dr1 DL_law_538
theorem DL_law_540 : cL_law.data.toList.drop 540 = TL_law_540 := dr1 DL_law_539
theorem DL_law_541 : cL_law.data.toList.drop 541 = TL_law_541 := dr1 DL_law_540
theorem DL_law_544 : cL_law.data.toList.drop 544 = TL_law_544 := dr3 DL_law_541
theorem DL_law_545 : cL_law.data.toList.drop 545 = TL_law_545 := dr1 DL_law_544
theorem DL_law_548 : cL_law.data.toList.drop 548 = TL_law_548 := dr3 DL_law_545
theorem DL_law_549 : cL_law.data.toList.drop 549 = TL_law_549 := dr1 DL_law_548
theorem DL_law_550 : cL_law.data.toList.drop 550 = TL_law_550 := dr1 DL_law_549
theorem DL_law_552 : cL_law.data.toList.drop 552 = TL_law_552 := dr2 DL_law_550
theorem DL_law_553 : cL_law.data.toList.drop 553 = TL_law_553 := dr1 DL_law_552
theorem DL_law_554 : cL_law.data.toList.drop 554 = TL_law_554 := dr1 DL_law_553
theorem DL_law_555 : cL_law.data.toList.drop 555 = TL_law_555 := dr1 DL_law_554
theorem DL_law_556 : cL_law.data.toList.drop 556 = TL_law_556 := dr1 DL_law_555
theorem DL_law_559 : cL_law.data.toList.drop 559 = TL_law_559 := dr3 DL_law_556
theorem DL_law_561 : cL_law.data.toList.drop 561 = TL_law_561 := dr2 DL_law_559
theorem DL_law_562 : cL_law.data.toList.drop 562 = TL_law_562 := dr1 DL_law_561
theorem DL_law_563 : cL_law.data.toList.drop 563 = TL_law_563 := dr1 DL_law_562
theorem DL_law_565 : cL_law.data.toList.drop 565 = TL_law_565 := dr2 DL_law_563
theorem DL_law_566 : cL_law.data.toList.drop 566 = TL_law_566 := dr1 DL_law_565
theorem DL_law_567 : cL_law.data.toList.drop 567 = TL_law_567 := dr1 DL_law_566
theorem DL_law_568 : cL_law.data.toList.drop 568 = TL_law_568 := dr1 DL_law_567
theorem DL_law_569 : cL_law.data.toList.drop 569 = TL_law_569 := dr1 DL_law_568
theorem DL_law_571 : cL_law.data.toList.drop 571 = TL_law_571 := dr2 DL_law_569
theorem DL_law_572 : cL_law.data.toList.drop 572 = TL_law_572 := dr1 DL_law_571
theorem DL_law_573 : cL_law.data.toList.drop 573 = TL_law_573 := dr1 DL_law_572
theorem DL_law_574 : cL_law.data.toList.drop 574 = TL_law_574 := dr1 DL_law_573
theorem DL_law_577 : cL_law.data.toList.drop 577 = TL_law_577 := dr3 DL_law_574
theorem DL_law_578 : cL_law.data.toList.drop 578 = TL_law_578 := dr1 DL_law_577
theorem DL_law_581 : cL_law.data.toList.drop 581 = TL_law_581 := dr3 DL_law_578
theorem DL_law_582 : cL_law.data.toList.drop 582 = TL_law_582 := dr1 DL_law_581
theorem DL_law_583 : cL_law.data.toList.drop 583 = TL_law_583 := dr1 DL_law_582
theorem DL_law_585 : cL_law.data.toList.drop 585 = TL_law_585 := dr2 DL_law_583
theorem DL_law_586 : cL_law.data.toList.drop 586 = TL_law_586 := dr1 DL_law_585
theorem DL_law_587 : cL_law.data.toList.drop 587 = TL_law_587 := dr1 DL_law_586
theorem DL_law_588 : cL_law.data.toList.drop 588 = TL_law_588 := dr1 DL_law_587
theorem DL_law_591 : cL_law.data.toList.drop 591 = TL_law_591 := dr3 DL_law_588
theorem DL_law_593 : cL_law.data.toList.drop 593 = TL_law_593 := dr2 DL_law_591
theorem DL_law_596 : cL_law.data.toList.drop 596 = TL_law_596 := dr3 DL_law_593
theorem DL_law_597 : cL_law.data.toList.drop 597 = TL_law_597 := dr1 DL_law_596
theorem DL_law_598 : cL_law.data.toList.drop 598 = TL_law_598 := dr1 DL_law_597
theorem DL_law_600 : cL_law.data.toList.drop 600 = TL_law_600 := dr2 DL_law_598
theorem DL_law_601 : cL_law.data.toList.drop 601 = TL_law_601 := dr1 DL_law_600
theorem DL_law_602 : cL_law.data.toList.drop 602 = TL_law_602 := dr1 DL_law_601
theorem DL_law_603 : cL_law.data.toList.drop 603 = TL_law_603 := dr1 DL_law_602
theorem DL_law_604 : cL_law.data.toList.drop 604 = TL_law_604 := dr1 DL_law_603
theorem DL_law_606 : cL_law.data.toList.drop 606 = TL_law_606 := dr2 DL_law_604
theorem DL_law_607 : cL_law.data.toList.drop 607 = TL_law_607 := dr1 DL_law_606
theorem DL_law_608 : cL_law.data.toList.drop 608 = TL_law_608 := dr1 DL_law_607
theorem DL_law_609 : cL_law.data.toList.drop 609 = TL_law_609 := dr1 DL_law_608
theorem DL_law_612 : cL_law.data.toList.drop 612 = TL_law_612 := dr3 DL_law_609
theorem DL_law_613 : cL_law.data.toList.drop 613 = TL_law_613 := dr1 DL_law_612
theorem DL_law_616 : cL_law.data.toList.drop 616 = TL_law_616 := dr3 DL_law_613
theorem DL_law_617 : cL_law.data.toList.drop 617 = TL_law_617 := dr1 DL_law_616
theorem DL_law_618 : cL_law.data.toList.drop 618 = TL_law_618 := dr1 DL_law_617
theorem DL_law_620 : cL_law.data.toList.drop 620 = TL_law_620 := dr2 DL_law_618
theorem DL_law_621 : cL_law.data.toList.drop 621 = TL_law_621 := dr1 DL_law_620
theorem DL_law_622 : cL_law.data.toList.drop 622 = TL_law_622 := dr1 DL_law_621
theorem DL_law_623 : cL_law.data.toList.drop 623 = TL_law_623 := dr1 DL_law_622
theorem DL_law_624 : cL_law.data.toList.drop 624 = TL_law_624 := dr1 DL_law_623
theorem DL_law_627 : cL_law.data.toList.drop 627 = TL_law_627 := dr3 DL_law_624
theorem DL_law_629 : cL_law.data.toList.drop 629 = TL_law_629 := dr2 DL_law_627
theorem DL_law_630 : cL_law.data.toList.drop 630 = TL_law_630 := dr1 DL_law_629
theorem DL_law_631 : cL_law.data.toList.drop 631 = TL_law_631 := dr1 DL_law_630
theorem DL_law_633 : cL_law.data.toList.drop 633 = TL_law_633 := dr2 DL_law_631
theorem DL_law_634 : cL_law.data.toList.drop 634 = TL_law_634 := dr1 DL_law_633
theorem DL_law_635 : cL_law.data.toList.drop 635 = TL_law_635 := dr1 DL_law_634
theorem DL_law_636 : cL_law.data.toList.drop 636 = TL_law_636 := dr1 DL_law_635
theorem DL_law_637 : cL_law.data.toList.drop 637 = TL_law_637 := dr1 DL_law_636
theorem DL_law_639 : cL_law.data.toList.drop 639 = TL_law_639 := dr2 DL_law_637
theorem DL_law_640 : cL_law.data.toList.drop 640 = TL_law_640 := dr1 DL_law_639
theorem DL_law_641 : cL_law.data.toList.drop 641 = TL_law_641 := dr1 DL_law_640
theorem DL_law_642 : cL_law.data.toList.drop 642 = TL_law_642 := dr1 DL_law_641
theorem DL_law_645 : cL_law.data.toList.drop 645 = TL_law_645 := dr3 DL_law_642
theorem DL_law_646 : cL_law.data.toList.drop 646 = TL_law_646 := dr1 DL_law_645
theorem DL_law_649 : cL_law.data.toList.drop 649 = TL_law_649 := dr3 DL_law_646
theorem DL_law_650 : cL_law.data.toList.drop 650 = TL_law_650 := dr1 DL_law_649
theorem DL_law_651 : cL_law.data.toList.drop 651 = TL_law_651 := dr1 DL_law_650
theorem DL_law_653 : cL_law.data.toList.drop 653 = TL_law_653 := dr2 DL_law_651
theorem DL_law_654 : cL_law.data.toList.drop 654 = TL_law_654 := dr1 DL_law_653
theorem DL_law_655 : cL_law.data.toList.drop 655 = TL_law_655 := dr1 DL_law_654
theorem DL_law_656 : cL_law.data.toList.drop 656 = TL_law_656 := dr1 DL_law_655
theorem DL_law_659 : cL_law.data.toList.drop 659 = TL_law_659 := dr3 DL_law_656
theorem DL_law_661 : cL_law.data.toList.drop 661 = TL_law_661 := dr2 DL_law_659
theorem DL_law_664 : cL_law.data.toList.drop 664 = TL_law_664 := dr3 DL_law_661
theorem DL_law_665 : cL_law.data.toList.drop 665 = TL_law_665 := dr1 DL_law_664
theorem DL_law_666 : cL_law.data.toList.drop 666 = TL_law_666 := dr1 DL_law_665
theorem DL_law_668 : cL_law.data.toList.drop 668 = TL_law_668 := dr2 DL_law_666
theorem DL_law_669 : cL_law.data.toList.drop 669 = TL_law_669 := dr1 DL_law_668
theorem DL_law_670 : cL_law.data.toList.drop 670 = TL_law_670 := dr1 DL_law_669
theorem DL_law_671 : cL_law.data.toList.drop 671 = TL_law_671 := dr1 DL_law_670
theorem DL_law_672 : cL_law.data.toList.drop 672 = TL_law_672 := dr1 DL_law_671
theorem DL_law_674 : cL_law.data.toList.drop 674 = TL_law_674 := dr2 DL_law_672
theorem DL_law_675 : cL_law.data.toList.drop 675 = TL_law_675 := dr1 DL_law_674
theorem DL_law_676 : cL_law.data.toList.drop 676 = TL_law_676 := dr1 DL_law_675
theorem DL_law_677 : cL_law.data.toList.drop 677 = TL_law_677 := dr1 DL_law_676
theorem DL_law_678 : cL_law.data.toList.drop 678 = TL_law_678 := dr1 DL_law_677
theorem DL_law_681 : cL_law.data.toList.drop 681 = TL_law_681 := dr3 DL_law_678
theorem DL_law_683 : cL_law.data.toList.drop 683 = TL_law_683 := dr2 DL_law_681
theorem DL_law_684 : cL_law.data.toList.drop 684 = TL_law_684 := dr1 DL_law_683
theorem DL_law_685 : cL_law.data.toList.drop 685 = TL_law_685 := dr1 DL_law_684
theorem DL_law_687 : cL_law.data.toList.drop 687 = TL_law_687 := dr2 DL_law_685
theorem DL_law_688 : cL_law.data.toList.drop 688 = TL_law_688 := dr1 DL_law_687
theorem DL_law_689 : cL_law.data.toList.drop 689 = TL_law_689 := dr1 DL_law_688
theorem DL_law_690 : cL_law.data.toList.drop 690 = TL_law_690 := dr1 DL_law_689
theorem DL_law_691 : cL_law.data.toList.drop 691 = TL_law_691 := dr1 DL_law_690
theorem DL_law_693 : cL_law.data.toList.drop 693 = TL_law_693 := dr2 DL_law_691
theorem DL_law_694 : cL_law.data.toList.drop 694 = TL_law_694 := dr1 DL_law_693
theorem DL_law_695 : cL_law.data.toList.drop 695 = TL_law_695 := dr1 DL_law_694
theorem DL_law_696 : cL_law.data.toList.drop 696 = TL_law_696 := dr1 DL_law_695
theorem DL_law_699 : cL_law.data.toList.drop 699 = TL_law_699 := dr3 DL_law_696
theorem DL_law_701 : cL_law.data.toList.drop 701 = TL_law_701 := dr2 DL_law_699
theorem DL_law_704 : cL_law.data.toList.drop 704 = TL_law_704 := dr3 DL_law_701
theorem DL_law_705 : cL_law.data.toList.drop 705 = TL_law_705 := dr1 DL_law_704
theorem DL_law_706 : cL_law.data.toList.drop 706 = TL_law_706 := dr1 DL_law_705
theorem DL_law_708 : cL_law.data.toList.drop 708 = TL_law_708 := dr2 DL_law_706
theorem DL_law_709 : cL_law.data.toList.drop 709 = TL_law_709 := dr1 DL_law_708
theorem DL_law_710 : cL_law.data.toList.drop 710 = TL_law_710 := dr1 DL_law_709
theorem DL_law_711 : cL_law.data.toList.drop 711 = TL_law_711 := dr1 DL_law_710
theorem DL_law_712 : cL_law.data.toList.drop 712 = TL_law_712 := dr1 DL_law_711
theorem DL_law_714 : cL_law.data.toList.drop 714 = TL_law_714 := dr2 DL_law_712
theorem DL_law_715 : cL_law.data.toList.drop 715 = TL_law_715 := dr1 DL_law_714
theorem DL_law_716 : cL_law.data.toList.drop 716 = TL_law_716 := dr1 DL_law_715
theorem DL_law_717 : cL_law.data.toList.drop 717 = TL_law_717 := dr1 DL_law_716
theorem DL_law_718 : cL_law.data.toList.drop 718 = TL_law_718 := dr1 DL_law_717
theorem DL_law_721 : cL_law.data.toList.drop 721 = TL_law_721 := dr3 DL_law_718
theorem DL_law_723 : cL_law.data.toList.drop 723 = TL_law_723 := dr2 DL_law_721
theorem DL_law_724 : cL_law.data.toList.drop 724 = TL_law_724 := dr1 DL_law_723
theorem DL_law_725 : cL_law.data.toList.drop 725 = TL_law_725 := dr1 DL_law_724
theorem DL_law_727 : cL_law.data.toList.drop 727 = TL_law_727 := dr2 DL_law_725
theorem DL_law_728 : cL_law.data.toList.drop 728 = TL_law_728 := dr1 DL_law_727
theorem DL_law_729 : cL_law.data.toList.drop 729 = TL_law_729 := dr1 DL_law_728
theorem DL_law_730 : cL_law.data.toList.drop 730 = TL_law_730 := dr1 DL_law_729
theorem DL_law_731 : cL_law.data.toList.drop 731 = TL_law_731 := dr1 DL_law_730
theorem DL_law_733 : cL_law.data.toList.drop 733 = TL_law_733 := dr2 DL_law_731
theorem DL_law_734 : cL_law.data.toList.drop 734 = TL_law_734 := dr1 DL_law_733
theorem DL_law_735 : cL_law.data.toList.drop 735 = TL_law_735 := dr1 DL_law_734
theorem DL_law_736 : cL_law.data.toList.drop 736 = TL_law_736 := dr1 DL_law_735
theorem DL_law_739 : cL_law.data.toList.drop 739 = TL_law_739 := dr3 DL_law_736
theorem DL_law_741 : cL_law.data.toList.drop 741 = TL_law_741 := dr2 DL_law_739
theorem DL_law_744 : cL_law.data.toList.drop 744 = TL_law_744 := dr3 DL_law_741
theorem DL_law_745 : cL_law.data.toList.drop 745 = TL_law_745 := dr1 DL_law_744
theorem DL_law_746 : cL_law.data.toList.drop 746 = TL_law_746 := dr1 DL_law_745
theorem DL_law_748 : cL_law.data.toList.drop 748 = TL_law_748 := dr2 DL_law_746
theorem DL_law_749 : cL_law.data.toList.drop 749 = TL_law_749 := dr1 DL_law_748
theorem DL_law_750 : cL_law.data.toList.drop 750 = TL_law_750 := dr1 DL_law_749
theorem DL_law_751 : cL_law.data.toList.drop 751 = TL_law_751 := dr1 DL_law_750
theorem DL_law_752 : cL_law.data.toList.drop 752 = TL_law_752 := dr1 DL_law_751
theorem DL_law_754 : cL_law.data.toList.drop 754 = TL_law_754 := dr2 DL_law_752
theorem DL_law_755 : cL_law.data.toList.drop 755 = TL_law_755 := dr1 DL_law_754
theorem DL_law_756 : cL_law.data.toList.drop 756 = TL_law_756 := dr1 DL_law_755
theorem DL_law_757 : cL_law.data.toList.drop 757 = TL_law_757 := dr1 DL_law_756
theorem DL_law_758 : cL_law.data.toList.drop 758 = TL_law_758 := dr1 DL_law_757
theorem DL_law_761 : cL_law.data.toList.drop 761 = TL_law_761 := dr3 DL_law_758
theorem DL_law_763 : cL_law.data.toList.drop 763 = TL_law_763 := dr2 DL_law_761
theorem DL_law_764 : cL_law.data.toList.drop 764 = TL_law_764 := dr1 DL_law_763
theorem DL_law_765 : cL_law.data.toList.drop 765 = TL_law_765 := dr1 DL_law_764
theorem DL_law_767 : cL_law.data.toList.drop 767 = TL_law_767 := dr2 DL_law_765
theorem DL_law_768 : cL_law.data.toList.drop 768 = TL_law_768 := dr1 DL_law_767
theorem DL_law_769 : cL_law.data.toList.drop 769 = TL_law_769 := dr1 DL_law_768
theorem DL_law_770 : cL_law.data.toList.drop 770 = TL_law_770 := dr1 DL_law_769
theorem DL_law_771 : cL_law.data.toList.drop 771 = TL_law_771 := dr1 DL_law_770
theorem DL_law_773 : cL_law.data.toList.drop 773 = TL_law_773 := dr2 DL_law_771
theorem DL_law_774 : cL_law.data.toList.drop 774 = TL_law_774 := dr1 DL_law_773
theorem DL_law_775 : cL_law.data.toList.drop 775 = TL_law_775 := dr1 DL_law_774
theorem DL_law_776 : cL_law.data.toList.drop 776 = TL_law_776 := dr1 DL_law_775
theorem DL_law_779 : cL_law.data.toList.drop 779 = TL_law_779 := dr3 DL_law_776
theorem DL_law_781 : cL_law.data.toList.drop 781 = TL_law_781 := dr2 DL_law_779
theorem DL_law_784 : cL_law.data.toList.drop 784 = TL_law_784 := dr3 DL_law_781
theorem DL_law_785 : cL_law.data.toList.drop 785 = TL_law_785 := dr1 DL_law_784
theorem DL_law_786 : cL_law.data.toList.drop 786 = TL_law_786 := dr1 DL_law_785
theorem DL_law_788 : cL_law.data.toList.drop 788 = TL_law_788 := dr2 DL_law_786
theorem DL_law_789 : cL_law.data.toList.drop 789 = TL_law_789 := dr1 DL_law_788
theorem DL_law_790 : cL_law.data.toList.drop 790 = TL_law_790 := dr1 DL_law_789
theorem DL_law_791 : cL_law.data.toList.drop 791 = TL_law_791 := dr1 DL_law_790
theorem DL_law_792 : cL_law.data.toList.drop 792 = TL_law_792 := dr1 DL_law_791
theorem DL_law_795 : cL_law.data.toList.drop 795 = TL_law_795 := dr3 DL_law_792
theorem DL_law_797 : cL_law.data.toList.drop 797 = TL_law_797 := dr2 DL_law_795
theorem DL_law_798 : cL_law.data.toList.drop 798 = TL_law_798 := dr1 DL_law_797
theorem DL_law_799 : cL_law.data.toList.drop 799 = TL_law_799 := dr1 DL_law_798
theorem DL_law_801 : cL_law.data.toList.drop 801 = TL_law_801 := dr2 DL_law_799
theorem DL_law_802 : cL_law.data.toList.drop 802 = TL_law_802 := dr1 DL_law_801
theorem DL_law_803 : cL_law.data.toList.drop 803 = TL_law_803 := dr1 DL_law_802
theorem DL_law_804 : cL_law.data.toList.drop 804 = TL_law_804 := dr1 DL_law_803
theorem DL_law_807 : cL_law.data.toList.drop 807 = TL_law_807 := dr3 DL_law_804
theorem DL_law_809 : cL_law.data.toList.drop 809 = TL_law_809 := dr2 DL_law_807
theorem DL_law_812 : cL_law.data.toList.drop 812 = TL_law_812 := dr3 DL_law_809
theorem DL_law_813 : cL_law.data.toList.drop 813 = TL_law_813 := dr1 DL_law_812
theorem DL_law_814 : cL_law.data.toList.drop 814 = TL_law_814 := dr1 DL_law_813
theorem DL_law_816 : cL_law.data.toList.drop 816 = TL_law_816 := dr2 DL_law_814
theorem DL_law_817 : cL_law.data.toList.drop 817 = TL_law_817 := dr1 DL_law_816
theorem DL_law_818 : cL_law.data.toList.drop 818 = TL_law_818 := dr1 DL_law_817
theorem DL_law_819 : cL_law.data.toList.drop 819 = TL_law_819 := dr1 DL_law_818
theorem DL_law_820 : cL_law.data.toList.drop 820 = TL_law_820 := dr1 DL_law_819
theorem DL_law_822 : cL_law.data.toList.drop 822 = TL_law_822 := dr2 DL_law_820
theorem DL_law_823 : cL_law.data.toList.drop 823 = TL_law_823 := dr1 DL_law_822
theorem DL_law_824 : cL_law.data.toList.drop 824 = TL_law_824 := dr1 DL_law_823
theorem DL_law_825 : cL_law.data.toList.drop 825 = TL_law_825 := dr1 DL_law_824
theorem DL_law_826 : cL_law.data.toList.drop 826 = TL_law_826 := dr1 DL_law_825
theorem DL_law_829 : cL_law.data.toList.drop 829 = TL_law_829 := dr3 DL_law_826
theorem DL_law_831 : cL_law.data.toList.drop 831 = TL_law_831 := dr2 DL_law_829
theorem DL_law_832 : cL_law.data.toList.drop 832 = TL_law_832 := dr1 DL_law_831
theorem DL_law_833 : cL_law.data.toList.drop 833 = TL_law_833 := dr1 DL_law_832
theorem DL_law_835 : cL_law.data.toList.drop 835 = TL_law_835 := dr2 DL_law_833
theorem DL_law_836 : cL_law.data.toList.drop 836 = TL_law_836 := dr1 DL_law_835
theorem DL_law_837 : cL_law.data.toList.drop 837 = TL_law_837 := dr1 DL_law_836
theorem DL_law_838 : cL_law.data.toList.drop 838 = TL_law_838 := dr1 DL_law_837
theorem DL_law_839 : cL_law.data.toList.drop 839 = TL_law_839 := dr1 DL_law_838
theorem DL_law_841 : cL_law.data.toList.drop 841 = TL_law_841 := dr2 DL_law_839
theorem DL_law_842 : cL_law.data.toList.drop 842 = TL_law_842 := dr1 DL_law_841
theorem DL_law_843 : cL_law.data.toList.drop 843 = TL_law_843 := dr1 DL_law_842
theorem DL_law_844 : cL_law.data.toList.drop 844 = TL_law_844 := dr1 DL_law_843
theorem DL_law_847 : cL_law.data.toList.drop 847 = TL_law_847 := dr3 DL_law_844
theorem DL_law_849 : cL_law.data.toList.drop 849 = TL_law_849 := dr2 DL_law_847
theorem DL_law_852 : cL_law.data.toList.drop 852 = TL_law_852 := dr3 DL_law_849
theorem DL_law_853 : cL_law.data.toList.drop 853 = TL_law_853 := dr1 DL_law_852
theorem DL_law_854 : cL_law.data.toList.drop 854 = TL_law_854 := dr1 DL_law_853
theorem DL_law_856 : cL_law.data.toList.drop 856 = TL_law_856 := dr2 DL_law_854
theorem DL_law_857 : cL_law.data.toList.drop 857 = TL_law_857 := dr1 DL_law_856
theorem DL_law_858 : cL_law.data.toList.drop 858 = TL_law_858 := dr1 DL_law_857
theorem DL_law_859 : cL_law.data.toList.drop 859 = TL_law_859 := dr1 DL_law_858
theorem DL_law_860 : cL_law.data.toList.drop 860 = TL_law_860 := dr1 DL_law_859
theorem DL_law_863 : cL_law.data.toList.drop 863 = TL_law_863 := dr3 DL_law_860
theorem DL_law_865 : cL_law.data.toList.drop 865 = TL_law_865 := dr2 DL_law_863
theorem DL_law_866 : cL_law.data.toList.drop 866 = TL_law_866 := dr1 DL_law_865
theorem DL_law_867 : cL_law.data.toList.drop 867 = TL_law_867 := dr1 DL_law_866
theorem DL_law_869 : cL_law.data.toList.drop 869 = TL_law_869 := dr2 DL_law_867
theorem DL_law_870 : cL_law.data.toList.drop 870 = TL_law_870 := dr1 DL_law_869
theorem DL_law_871 : cL_law.data.toList.drop 871 = TL_law_871 := dr1 DL_law_870
theorem DL_law_872 : cL_law.data.toList.drop 872 = TL_law_872 := dr1 DL_law_871
theorem DL_law_875 : cL_law.data.toList.drop 875 = TL_law_875 := dr3 DL_law_872
theorem DL_law_877 : cL_law.data.toList.drop 877 = TL_law_877 := dr2 DL_law_875
theorem DL_law_880 : cL_law.data.toList.drop 880 = TL_law_880 := dr3 DL_law_877
theorem DL_law_881 : cL_law.data.toList.drop 881 = TL_law_881 := dr1 DL_law_880
theorem DL_law_882 : cL_law.data.toList.drop 882 = TL_law_882 := dr1 DL_law_881
theorem DL_law_884 : cL_law.data.toList.drop 884 = TL_law_884 := dr2 DL_law_882
theorem DL_law_885 : cL_law.data.toList.drop 885 = TL_law_885 := dr1 DL_law_884
theorem DL_law_886 : cL_law.data.toList.drop 886 = TL_law_886 := dr1 DL_law_885
theorem DL_law_887 : cL_law.data.toList.drop 887 = TL_law_887 := dr1 DL_law_886
theorem DL_law_888 : cL_law.data.toList.drop 888 = TL_law_888 := dr1 DL_law_887
theorem DL_law_891 : cL_law.data.toList.drop 891 = TL_law_891 := dr3 DL_law_888
theorem DL_law_893 : cL_law.data.toList.drop 893 = TL_law_893 := dr2 DL_law_891
theorem DL_law_894 : cL_law.data.toList.drop 894 = TL_law_894 := dr1 DL_law_893
theorem DL_law_895 : cL_law.data.toList.drop 895 = TL_law_895 := dr1 DL_law_894
theorem DL_law_897 : cL_law.data.toList.drop 897 = TL_law_897 := dr2 DL_law_895
theorem DL_law_898 : cL_law.data.toList.drop 898 = TL_law_898 := dr1 DL_law_897
theorem DL_law_899 : cL_law.data.toList.drop 899 = TL_law_899 := dr1 DL_law_898
theorem DL_law_900 : cL_law.data.toList.drop 900 = TL_law_900 := dr1 DL_law_899
theorem DL_law_903 : cL_law.data.toList.drop 903 = TL_law_903 := dr3 DL_law_900
theorem DL_law_905 : cL_law.data.toList.drop 905 = TL_law_905 := dr2 DL_law_903
theorem DL_law_908 : cL_law.data.toList.drop 908 = TL_law_908 := dr3 DL_law_905
theorem DL_law_909 : cL_law.data.toList.drop 909 = TL_law_909 := dr1 DL_law_908
theorem DL_law_910 : cL_law.data.toList.drop 910 = TL_law_910 := dr1 DL_law_909
theorem DL_law_912 : cL_law.data.toList.drop 912 = TL_law_912 := dr2 DL_law_910
theorem DL_law_913 : cL_law.data.toList.drop 913 = TL_law_913 := dr1 DL_law_912
theorem DL_law_914 : cL_law.data.toList.drop 914 = TL_law_914 := dr1 DL_law_913
theorem DL_law_915 : cL_law.data.toList.drop 915 = TL_law_915 := dr1 DL_law_914
theorem DL_law_916 : cL_law.data.toList.drop 916 = TL_law_916 := dr1 DL_law_915
theorem DL_law_918 : cL_law.data.toList.drop 918 = TL_law_918 := dr2 DL_law_916
theorem DL_law_919 : cL_law.data.toList.drop 919 = TL_law_919 := dr1 DL_law_918
theorem DL_law_920 : cL_law.data.toList.drop 920 = TL_law_920 := dr1 DL_law_919
theorem DL_law_921 : cL_law.data.toList.drop 921 = TL_law_921 := dr1 DL_law_920
theorem DL_law_924 : cL_law.data.toList.drop 924 = TL_law_924 := dr3 DL_law_921
theorem DL_law_925 : cL_law.data.toList.drop 925 = TL_law_925 := dr1 DL_law_924
theorem DL_law_928 : cL_law.data.toList.drop 928 = TL_law_928 := dr3 DL_law_925
theorem DL_law_929 : cL_law.data.toList.drop 929 = TL_law_929 := dr1 DL_law_928
theorem DL_law_930 : cL_law.data.toList.drop 930 = TL_law_930 := dr1 DL_law_929
theorem DL_law_933 : cL_law.data.toList.drop 933 = TL_law_933 := dr3 DL_law_930
theorem DL_law_935 : cL_law.data.toList.drop 935 = TL_law_935 := dr2 DL_law_933
theorem DL_law_936 : cL_law.data.toList.drop 936 = TL_law_936 := dr1 DL_law_935
theorem DL_law_937 : cL_law.data.toList.drop 937 = TL_law_937 := dr1 DL_law_936
theorem DL_law_939 : cL_law.data.toList.drop 939 = TL_law_939 := dr2 DL_law_937
theorem DL_law_940 : cL_law.data.toList.drop 940 = TL_law_940 := dr1 DL_law_939
theorem DL_law_941 : cL_law.data.toList.drop 941 = TL_law_941 := dr1 DL_law_940
theorem DL_law_942 : cL_law.data.toList.drop 942 = TL_law_942 := dr1 DL_law_941
theorem DL_law_943 : cL_law.data.toList.drop 943 = TL_law_943 := dr1 DL_law_942
theorem DL_law_945 : cL_law.data.toList.drop 945 = TL_law_945 := dr2 DL_law_943
theorem DL_law_946 : cL_law.data.toList.drop 946 = TL_law_946 := dr1 DL_law_945
theorem DL_law_947 : cL_law.data.toList.drop 947 = TL_law_947 := dr1 DL_law_946
theorem DL_law_948 : cL_law.data.toList.drop 948 = TL_law_948 := dr1 DL_law_947
theorem DL_law_951 : cL_law.data.toList.drop 951 = TL_law_951 := dr3 DL_law_948
theorem DL_law_952 : cL_law.data.toList.drop 952 = TL_law_952 := dr1 DL_law_951
theorem DL_law_955 : cL_law.data.toList.drop 955 = TL_law_955 := dr3 DL_law_952
theorem DL_law_956 : cL_law.data.toList.drop 956 = TL_law_956 := dr1 DL_law_955
theorem DL_law_959 : cL_law.data.toList.drop 959 = TL_law_959 := dr3 DL_law_956
theorem DL_law_961 : cL_law.data.toList.drop 961 = TL_law_961 := dr2 DL_law_959
theorem DL_law_964 : cL_law.data.toList.drop 964 = TL_law_964 := dr3 DL_law_961
theorem DL_law_965 : cL_law.data.toList.drop 965 = TL_law_965 := dr1 DL_law_964
theorem DL_law_966 : cL_law.data.toList.drop 966 = TL_law_966 := dr1 DL_law_965
theorem DL_law_968 : cL_law.data.toList.drop 968 = TL_law_968 := dr2 DL_law_966
theorem DL_law_969 : cL_law.data.toList.drop 969 = TL_law_969 := dr1 DL_law_968
theorem DL_law_970 : cL_law.data.toList.drop 970 = TL_law_970 := dr1 DL_law_969
theorem DL_law_971 : cL_law.data.toList.drop 971 = TL_law_971 := dr1 DL_law_970
theorem DL_law_972 : cL_law.data.toList.drop 972 = TL_law_972 := dr1 DL_law_971
theorem DL_law_974 : cL_law.data.toList.drop 974 = TL_law_974 := dr2 DL_law_972
theorem DL_law_975 : cL_law.data.toList.drop 975 = TL_law_975 := dr1 DL_law_974
theorem DL_law_976 : cL_law.data.toList.drop 976 = TL_law_976 := dr1 DL_law_975
theorem DL_law_977 : cL_law.data.toList.drop 977 = TL_law_977 := dr1 DL_law_976
theorem DL_law_980 : cL_law.data.toList.drop 980 = TL_law_980 := dr3 DL_law_977
theorem DL_law_981 : cL_law.data.toList.drop 981 = TL_law_981 := dr1 DL_law_980
theorem DL_law_984 : cL_law.data.toList.drop 984 = TL_law_984 := dr3 DL_law_981
theorem DL_law_985 : cL_law.data.toList.drop 985 = TL_law_985 := dr1 DL_law_984
theorem DL_law_986 : cL_law.data.toList.drop 986 = TL_law_986 := dr1 DL_law_985
theorem DL_law_989 : cL_law.data.toList.drop 989 = TL_law_989 := dr3 DL_law_986
theorem DL_law_991 : cL_law.data.toList.drop 991 = TL_law_991 := dr2 DL_law_989
theorem DL_law_992 : cL_law.data.toList.drop 992 = TL_law_992 := dr1 DL_law_991
theorem DL_law_993 : cL_law.data.toList.drop 993 = TL_law_993 := dr1 DL_law_992
theorem DL_law_995 : cL_law.data.toList.drop 995 = TL_law_995 := dr2 DL_law_993
theorem DL_law_996 : cL_law.data.toList.drop 996 = TL_law_996 := dr1 DL_law_995
theorem DL_law_997 : cL_law.data.toList.drop 997 = TL_law_997 := dr1 DL_law_996
theorem DL_law_998 : cL_law.data.toList.drop 998 = TL_law_998 := dr1 DL_law_997
theorem DL_law_999 : cL_law.data.toList.drop 999 = TL_law_999 := dr1 DL_law_998
theorem DL_law_1001 : cL_law.data.toList.drop 1001 = TL_law_1001 := dr2 DL_law_999
theorem DL_law_1002 : cL_law.data.toList.drop 1002 = TL_law_1002 := dr1 DL_law_1001
theorem DL_law_1003 : cL_law.data.toList.drop 1003 = TL_law_1003 := dr1 DL_law_1002
theorem DL_law_1004 : cL_law.data.toList.drop 1004 = TL_law_1004 := dr1 DL_law_1003
theorem DL_law_1007 : cL_law.data.toList.drop 1007 = TL_law_1007 := dr3 DL_law_1004
theorem DL_law_1008 : cL_law.data.toList.drop 1008 = TL_law_1008 := dr1 DL_law_1007
theorem DL_law_1011 : cL_law.data.toList.drop 1011 = TL_law_1011 := dr3 DL_law_1008
theorem DL_law_1012 : cL_law.data.toList.drop 1012 = TL_law_1012 := dr1 DL_law_1011
theorem DL_law_1015 : cL_law.data.toList.drop 1015 = TL_law_1015 := dr3 DL_law_1012
theorem DL_law_1017 : cL_law.data.toList.drop 1017 = TL_law_1017 := dr2 DL_law_1015
theorem DL_law_1020 : cL_law.data.toList.drop 1020 = TL_law_1020 := dr3 DL_law_1017
theorem DL_law_1021 : cL_law.data.toList.drop 1021 = TL_law_1021 := dr1 DL_law_1020
theorem DL_law_1022 : cL_law.data.toList.drop 1022 = TL_law_1022 := dr1 DL_law_1021
theorem DL_law_1024 : cL_law.data.toList.drop 1024 = TL_law_1024 := dr2 DL_law_1022
theorem DL_law_1025 : cL_law.data.toList.drop 1025 = TL_law_1025 := dr1 DL_law_1024
theorem DL_law_1026 : cL_law.data.toList.drop 1026 = TL_law_1026 := dr1 DL_law_1025
theorem DL_law_1027 : cL_law.data.toList.drop 1027 = TL_law_1027 := dr1 DL_law_1026
theorem DL_law_1028 : cL_law.data.toList.drop 1028 = TL_law_1028 := dr1 DL_law_1027
theorem DL_law_1031 : cL_law.data.toList.drop 1031 = TL_law_1031 := dr3 DL_law_1028
theorem DL_law_1033 : cL_law.data.toList.drop 1033 = TL_law_1033 := dr2 DL_law_1031
theorem DL_law_1034 : cL_law.data.toList.drop 1034 = TL_law_1034 := dr1 DL_law_1033
theorem DL_law_1035 : cL_law.data.toList.drop 1035 = TL_law_1035 := dr1 DL_law_1034
theorem DL_law_1037 : cL_law.data.toList.drop 1037 = TL_law_1037 := dr2 DL_law_1035
theorem DL_law_1038 : cL_law.data.toList.drop 1038 = TL_law_1038 := dr1 DL_law_1037
theorem DL_law_1039 : cL_law.data.toList.drop 1039 = TL_law_1039 := dr1 DL_law_1038
theorem DL_law_1040 : cL_law.data.toList.drop 1040 = TL_law_1040 := dr1 DL_law_1039
theorem DL_law_1043 : cL_law.data.toList.drop 1043 = TL_law_1043 := dr3 DL_law_1040
theorem DL_law_1045 : cL_law.data.toList.drop 1045 = TL_law_1045 := dr2 DL_law_1043
theorem DL_law_1048 : cL_law.data.toList.drop 1048 = TL_law_1048 := dr3 DL_law_1045
theorem DL_law_1049 : cL_law.data.toList.drop 1049 = TL_law_1049 := dr1 DL_law_1048
theorem DL_law_1050 : cL_law.data.toList.drop 1050 = TL_law_1050 := dr1 DL_law_1049
theorem DL_law_1052 : cL_law.data.toList.drop 1052 = TL_law_1052 := dr2 DL_law_1050
theorem DL_law_1053 : cL_law.data.toList.drop 1053 = TL_law_1053 := dr1 DL_law_1052
theorem DL_law_1054 : cL_law.data.toList.drop 1054 = TL_law_1054 := dr1 DL_law_1053
theorem DL_law_1055 : cL_law.data.toList.drop 1055 = TL_law_1055 := dr1 DL_law_1054
theorem DL_law_1056 : cL_law.data.toList.drop 1056 = TL_law_1056 := dr1 DL_law_1055
theorem DL_law_1058 : cL_law.data.toList.drop 1058 = TL_law_1058 := dr2 DL_law_1056
theorem DL_law_1059 : cL_law.data.toList.drop 1059 = TL_law_1059 := dr1 DL_law_1058
theorem DL_law_1060 : cL_law.data.toList.drop 1060 = TL_law_1060 := dr1 DL_law_1059
theorem DL_law_1061 : cL_law.data.toList.drop 1061 = TL_law_1061 := dr1 DL_law_1060
theorem DL_law_1062 : cL_law.data.toList.drop 1062 = TL_law_1062 := dr1 DL_law_1061
theorem DL_law_1064 : cL_law.data.toList.drop 1064 = TL_law_1064 := dr2 DL_law_1062
theorem DL_law_1065 : cL_law.data.toList.drop 1065 = TL_law_1065 := dr1 DL_law_1064
theorem DL_law_1066 : cL_law.data.toList.drop 1066 = TL_law_1066 := dr1 DL_law_1065
theorem DL_law_1067 : cL_law.data.toList.drop 1067 = TL_law_1067 := dr1 DL_law_1066
theorem DL_law_1068 : cL_law.data.toList.drop 1068 = TL_law_1068 := dr1 DL_law_1067
theorem DL_law_1070 : cL_law.data.toList.drop 1070 = TL_law_1070 := dr2 DL_law_1068
theorem DL_law_1071 : cL_law.data.toList.drop 1071 = TL_law_1071 := dr1 DL_law_1070
theorem DL_law_1072 : cL_law.data.toList.drop 1072 = TL_law_1072 := dr1 DL_law_1071
theorem DL_law_1073 : cL_law.data.toList.drop 1073 = TL_law_1073 := dr1 DL_law_1072
theorem DL_law_1074 : cL_law.data.toList.drop 1074 = TL_law_1074 := dr1 DL_law_1073
theorem DL_law_1077 : cL_law.data.toList.drop 1077 = TL_law_1077 := dr3 DL_law_1074
theorem DL_law_1079 : cL_law.data.toList.drop 1079 = TL_law_1079 := dr2 DL_law_1077
theorem DL_law_1080 : cL_law.data.toList.drop 1080 = TL_law_1080 := dr1 DL_law_1079
theorem DL_law_1081 : cL_law.data.toList.drop 1081 = TL_law_1081 := dr1 DL_law_1080
theorem DL_law_1083 : cL_law.data.toList.drop 1083 = TL_law_1083 := dr2 DL_law_1081
theorem DL_law_1084 : cL_law.data.toList.drop 1084 = TL_law_1084 := dr1 DL_law_1083
theorem DL_law_1085 : cL_law.data.toList.drop 1085 = TL_law_1085 := dr1 DL_law_1084
theorem DL_law_1086 : cL_law.data.toList.drop 1086 = TL_law_1086 := dr1 DL_law_1085
theorem DL_law_1087 : cL_law.data.toList.drop 1087 = TL_law_1087 := dr1 DL_law_1086
theorem DL_law_1089 : cL_law.data.toList.drop 1089 = TL_law_1089 := dr2 DL_law_1087
theorem DL_law_1090 : cL_law.data.toList.drop 1090 = TL_law_1090 := dr1 DL_law_1089
theorem DL_law_1091 : cL_law.data.toList.drop 1091 = TL_law_1091 := dr1 DL_law_1090
theorem DL_law_1092 : cL_law.data.toList.drop 1092 = TL_law_1092 := dr1 DL_law_1091
theorem DL_law_1093 : cL_law.data.toList.drop 1093 = TL_law_1093 := dr1 DL_law_1092
theorem DL_law_1095 : cL_law.data.toList.drop 1095 = TL_law_1095 := dr2 DL_law_1093
theorem DL_law_1096 : cL_law.data.toList.drop 1096 = TL_law_1096 := dr1 DL_law_1095
theorem DL_law_1097 : cL_law.data.toList.drop 1097 = TL_law_1097 := dr1 DL_law_1096
theorem DL_law_1098 : cL_law.data.toList.drop 1098 = TL_law_1098 := dr1 DL_law_1097
theorem DL_law_1099 : cL_law.data.toList.drop 1099 = TL_law_1099 := dr1 DL_law_1098
theorem DL_law_1101 : cL_law.data.toList.drop 1101 = TL_law_1101 := dr2 DL_law_1099
theorem DL_law_1102 : cL_law.data.toList.drop 1102 = TL_law_1102 := dr1 DL_law_1101
theorem DL_law_1103 : cL_law.data.toList.drop 1103 = TL_law_1103 := dr1 DL_law_1102
theorem DL_law_1104 : cL_law.data.toList.drop 1104 = TL_law_1104 := dr1 DL_law_1103
theorem DL_law_1107 : cL_law.data.toList.drop 1107 = TL_law_1107 := dr3 DL_law_1104
theorem DL_law_1109 : cL_law.data.toList.drop 1109 = TL_law_1109 := dr2 DL_law_1107
theorem DL_law_1112 : cL_law.data.toList.drop 1112 = TL_law_1112 := dr3 DL_law_1109
theorem DL_law_1113 : cL_law.data.toList.drop 1113 = TL_law_1113 := dr1 DL_law_1112
theorem DL_law_1114 : cL_law.data.toList.drop 1114 = TL_law_1114 := dr1 DL_law_1113
theorem DL_law_1116 : cL_law.data.toList.drop 1116 = TL_law_1116 := dr2 DL_law_1114
theorem DL_law_1117 : cL_law.data.toList.drop 1117 = TL_law_1117 := dr1 DL_law_1116
theorem DL_law_1118 : cL_law.data.toList.drop 1118 = TL_law_1118 := dr1 DL_law_1117
theorem DL_law_1119 : cL_law.data.toList.drop 1119 = TL_law_1119 := dr1 DL_law_1118
theorem DL_law_1120 : cL_law.data.toList.drop 1120 = TL_law_1120 := dr1 DL_law_1119
theorem DL_law_1122 : cL_law.data.toList.drop 1122 = TL_law_1122 := dr2 DL_law_1120
theorem DL_law_1123 : cL_law.data.toList.drop 1123 = TL_law_1123 := dr1 DL_law_1122
theorem DL_law_1124 : cL_law.data.toList.drop 1124 = TL_law_1124 := dr1 DL_law_1123
theorem DL_law_1125 : cL_law.data.toList.drop 1125 = TL_law_1125 := dr1 DL_law_1124
theorem DL_law_1126 : cL_law.data.toList.drop 1126 = TL_law_1126 := dr1 DL_law_1125
theorem DL_law_1129 : cL_law.data.toList.drop 1129 = TL_law_1129 := dr3 DL_law_1126
theorem DL_law_1131 : cL_law.data.toList.drop 1131 = TL_law_1131 := dr2 DL_law_1129
theorem DL_law_1132 : cL_law.data.toList.drop 1132 = TL_law_1132 := dr1 DL_law_1131
theorem DL_law_1133 : cL_law.data.toList.drop 1133 = TL_law_1133 := dr1 DL_law_1132
theorem DL_law_1135 : cL_law.data.toList.drop 1135 = TL_law_1135 := dr2 DL_law_1133
theorem DL_law_1136 : cL_law.data.toList.drop 1136 = TL_law_1136 := dr1 DL_law_1135
theorem DL_law_1137 : cL_law.data.toList.drop 1137 = TL_law_1137 := dr1 DL_law_1136
theorem DL_law_1138 : cL_law.data.toList.drop 1138 = TL_law_1138 := dr1 DL_law_1137
theorem DL_law_1139 : cL_law.data.toList.drop 1139 = TL_law_1139 := dr1 DL_law_1138
theorem DL_law_1141 : cL_law.data.toList.drop 1141 = TL_law_1141 := dr2 DL_law_1139
theorem DL_law_1142 : cL_law.data.toList.drop 1142 = TL_law_1142 := dr1 DL_law_1141
theorem DL_law_1143 : cL_law.data.toList.drop 1143 = TL_law_1143 := dr1 DL_law_1142
theorem DL_law_1144 : cL_law.data.toList.drop 1144 = TL_law_1144 := dr1 DL_law_1143
theorem DL_law_1147 : cL_law.data.toList.drop 1147 = TL_law_1147 := dr3 DL_law_1144
theorem DL_law_1149 : cL_law.data.toList.drop 1149 = TL_law_1149 := dr2 DL_law_1147
theorem DL_law_1152 : cL_law.data.toList.drop 1152 = TL_law_1152 := dr3 DL_law_1149
theorem DL_law_1153 : cL_law.data.toList.drop 1153 = TL_law_1153 := dr1 DL_law_1152
theorem DL_law_1154 : cL_law.data.toList.drop 1154 = TL_law_1154 := dr1 DL_law_1153
theorem DL_law_1156 : cL_law.data.toList.drop 1156 = TL_law_1156 := dr2 DL_law_1154
theorem DL_law_1157 : cL_law.data.toList.drop 1157 = TL_law_1157 := dr1 DL_law_1156
theorem DL_law_1158 : cL_law.data.toList.drop 1158 = TL_law_1158 := dr1 DL_law_1157
theorem DL_law_1159 : cL_law.data.toList.drop 1159 = TL_law_1159 := dr1 DL_law_1158
theorem DL_law_1160 : cL_law.data.toList.drop 1160 = TL_law_1160 := dr1 DL_law_1159
theorem DL_law_1162 : cL_law.data.toList.drop 1162 = TL_law_1162 := dr2 DL_law_1160
theorem DL_law_1163 : cL_law.data.toList.drop 1163 = TL_law_1163 := dr1 DL_law_1162
theorem DL_law_1164 : cL_law.data.toList.drop 1164 = TL_law_1164 := dr1 DL_law_1163
theorem DL_law_1165 : cL_law.data.toList.drop 1165 = TL_law_1165 := dr1 DL_law_1164
theorem DL_law_1166 : cL_law.data.toList.drop 1166 = TL_law_1166 := dr1 DL_law_1165
theorem DL_law_1169 : cL_law.data.toList.drop 1169 = TL_law_1169 := dr3 DL_law_1166
theorem DL_law_1171 : cL_law.data.toList.drop 1171 = TL_law_1171 := dr2 DL_law_1169
theorem DL_law_1172 : cL_law.data.toList.drop 1172 = TL_law_1172 := dr1 DL_law_1171
theorem DL_law_1173 : cL_law.data.toList.drop 1173 = TL_law_1173 := dr1 DL_law_1172
theorem DL_law_1175 : cL_law.data.toList.drop 1175 = TL_law_1175 := dr2 DL_law_1173
theorem DL_law_1176 : cL_law.data.toList.drop 1176 = TL_law_1176 := dr1 DL_law_1175
theorem DL_law_1177 : cL_law.data.toList.drop 1177 = TL_law_1177 := dr1 DL_law_1176
theorem DL_law_1178 : cL_law.data.toList.drop 1178 = TL_law_1178 := dr1 DL_law_1177
theorem DL_law_1179 : cL_law.data.toList.drop 1179 = TL_law_1179 := dr1 DL_law_1178
theorem DL_law_1181 : cL_law.data.toList.drop 1181 = TL_law_1181 := dr2 DL_law_1179
theorem DL_law_1182 : cL_law.data.toList.drop 1182 = TL_law_1182 := dr1 DL_law_1181
theorem DL_law_1183 : cL_law.data.toList.drop 1183 = TL_law_1183 := dr1 DL_law_1182
theorem DL_law_1184 : cL_law.data.toList.drop 1184 = TL_law_1184 := dr1 DL_law_1183
theorem DL_law_1187 : cL_law.data.toList.drop 1187 = TL_law_1187 := dr3 DL_law_1184
theorem DL_law_1189 : cL_law.data.toList.drop 1189 = TL_law_1189 := dr2 DL_law_1187
theorem DL_law_1192 : cL_law.data.toList.drop 1192 = TL_law_1192 := dr3 DL_law_1189
theorem DL_law_1193 : cL_law.data.toList.drop 1193 = TL_law_1193 := dr1 DL_law_1192
theorem DL_law_1194 : cL_law.data.toList.drop 1194 = TL_law_1194 := dr1 DL_law_1193
theorem DL_law_1196 : cL_law.data.toList.drop 1196 = TL_law_1196 := dr2 DL_law_1194
theorem DL_law_1197 : cL_law.data.toList.drop 1197 = TL_law_1197 := dr1 DL_law_1196
theorem DL_law_1198 : cL_law.data.toList.drop 1198 = TL_law_1198 := dr1 DL_law_1197
theorem DL_law_1199 : cL_law.data.toList.drop 1199 = TL_law_1199 := dr1 DL_law_1198
theorem DL_law_1200 : cL_law.data.toList.drop 1200 = TL_law_1200 := dr1 DL_law_1199
theorem DL_law_1202 : cL_law.data.toList.drop 1202 = TL_law_1202 := dr2 DL_law_1200
theorem DL_law_1203 : cL_law.data.toList.drop 1203 = TL_law_1203 := dr1 DL_law_1202
theorem DL_law_1204 : cL_law.data.toList.drop 1204 = TL_law_1204 := dr1 DL_law_1203
theorem DL_law_1205 : cL_law.data.toList.drop 1205 = TL_law_1205 := dr1 DL_law_1204
theorem DL_law_1206 : cL_law.data.toList.drop 1206 = TL_law_1206 := dr1 DL_law_1205
theorem DL_law_1208 : cL_law.data.toList.drop 1208 = TL_law_1208 := dr2 DL_law_1206
theorem DL_law_1209 : cL_law.data.toList.drop 1209 = TL_law_1209 := dr1 DL_law_1208
theorem DL_law_1210 : cL_law.data.toList.drop 1210 = TL_law_1210 := dr1 DL_law_1209
theorem DL_law_1211 : cL_law.data.toList.drop 1211 = TL_law_1211 := dr1 DL_law_1210
theorem DL_law_1212 : cL_law.data.toList.drop 1212 = TL_law_1212 := dr1 DL_law_1211
theorem DL_law_1215 : cL_law.data.toList.drop 1215 = TL_law_1215 := dr3 DL_law_1212
theorem DL_law_1217 : cL_law.data.toList.drop 1217 = TL_law_1217 := dr2 DL_law_1215
theorem DL_law_1218 : cL_law.data.toList.drop 1218 = TL_law_1218 := dr1 DL_law_1217
theorem DL_law_1219 : cL_law.data.toList.drop 1219 = TL_law_1219 := dr1 DL_law_1218
theorem DL_law_1221 : cL_law.data.toList.drop 1221 = TL_law_1221 := dr2 DL_law_1219
theorem DL_law_1222 : cL_law.data.toList.drop 1222 = TL_law_1222 := dr1 DL_law_1221
theorem DL_law_1223 : cL_law.data.toList.drop 1223 = TL_law_1223 := dr1 DL_law_1222
theorem DL_law_1224 : cL_law.data.toList.drop 1224 = TL_law_1224 := dr1 DL_law_1223
theorem DL_law_1225 : cL_law.data.toList.drop 1225 = TL_law_1225 := dr1 DL_law_1224
theorem DL_law_1227 : cL_law.data.toList.drop 1227 = TL_law_1227 := dr2 DL_law_1225
theorem DL_law_1228 : cL_law.data.toList.drop 1228 = TL_law_1228 := dr1 DL_law_1227
theorem DL_law_1229 : cL_law.data.toList.drop 1229 = TL_law_1229 := dr1 DL_law_1228
theorem DL_law_1230 : cL_law.data.toList.drop 1230 = TL_law_1230 := dr1 DL_law_1229
theorem DL_law_1231 : cL_law.data.toList.drop 1231 = TL_law_1231 := dr1 DL_law_1230
theorem DL_law_1233 : cL_law.data.toList.drop 1233 = TL_law_1233 := dr2 DL_law_1231
theorem DL_law_1234 : cL_law.data.toList.drop 1234 = TL_law_1234 := dr1 DL_law_1233
theorem DL_law_1235 : cL_law.data.toList.drop 1235 = TL_law_1235 := dr1 DL_law_1234
theorem DL_law_1236 : cL_law.data.toList.drop 1236 = TL_law_1236 := dr1 DL_law_1235
theorem DL_law_1239 : cL_law.data.toList.drop 1239 = TL_law_1239 := dr3 DL_law_1236
theorem DL_law_1241 : cL_law.data.toList.drop 1241 = TL_law_1241 := dr2 DL_law_1239
theorem DL_law_1244 : cL_law.data.toList.drop 1244 = TL_law_1244 := dr3 DL_law_1241
theorem DL_law_1245 : cL_law.data.toList.drop 1245 = TL_law_1245 := dr1 DL_law_1244
theorem DL_law_1246 : cL_law.data.toList.drop 1246 = TL_law_1246 := dr1 DL_law_1245
theorem DL_law_1248 : cL_law.data.toList.drop 1248 = TL_law_1248 := dr2 DL_law_1246
theorem DL_law_1249 : cL_law.data.toList.drop 1249 = TL_law_1249 := dr1 DL_law_1248
theorem DL_law_1250 : cL_law.data.toList.drop 1250 = TL_law_1250 := dr1 DL_law_1249
theorem DL_law_1251 : cL_law.data.toList.drop 1251 = TL_law_1251 := dr1 DL_law_1250
theorem DL_law_1252 : cL_law.data.toList.drop 1252 = TL_law_1252 := dr1 DL_law_1251
theorem DL_law_1254 : cL_law.data.toList.drop 1254 = TL_law_1254 := dr2 DL_law_1252
theorem DL_law_1255 : cL_law.data.toList.drop 1255 = TL_law_1255 := dr1 DL_law_1254
theorem DL_law_1256 : cL_law.data.toList.drop 1256 = TL_law_1256 := dr1 DL_law_1255
theorem DL_law_1257 : cL_law.data.toList.drop 1257 = TL_law_1257 := dr1 DL_law_1256
theorem DL_law_1258 : cL_law.data.toList.drop 1258 = TL_law_1258 := dr1 DL_law_1257
theorem DL_law_1261 : cL_law.data.toList.drop 1261 = TL_law_1261 := dr3 DL_law_1258
theorem DL_law_1263 : cL_law.data.toList.drop 1263 = TL_law_1263 := dr2 DL_law_1261
theorem DL_law_1264 : cL_law.data.toList.drop 1264 = TL_law_1264 := dr1 DL_law_1263
theorem DL_law_1265 : cL_law.data.toList.drop 1265 = TL_law_1265 := dr1 DL_law_1264
theorem DL_law_1267 : cL_law.data.toList.drop 1267 = TL_law_1267 := dr2 DL_law_1265
theorem DL_law_1268 : cL_law.data.toList.drop 1268 = TL_law_1268 := dr1 DL_law_1267
theorem DL_law_1269 : cL_law.data.toList.drop 1269 = TL_law_1269 := dr1 DL_law_1268
theorem DL_law_1270 : cL_law.data.toList.drop 1270 = TL_law_1270 := dr1 DL_law_1269
theorem DL_law_1271 : cL_law.data.toList.drop 1271 = TL_law_1271 := dr1 DL_law_1270
theorem DL_law_1273 : cL_law.data.toList.drop 1273 = TL_law_1273 := dr2 DL_law_1271
theorem DL_law_1274 : cL_law.data.toList.drop 1274 = TL_law_1274 := dr1 DL_law_1273
theorem DL_law_1275 : cL_law.data.toList.drop 1275 = TL_law_1275 := dr1 DL_law_1274
theorem DL_law_1276 : cL_law.data.toList.drop 1276 = TL_law_1276 := dr1 DL_law_1275
theorem DL_law_1279 : cL_law.data.toList.drop 1279 = TL_law_1279 := dr3 DL_law_1276
theorem DL_law_1281 : cL_law.data.toList.drop 1281 = TL_law_1281 := dr2 DL_law_1279
theorem DL_law_1284 : cL_law.data.toList.drop 1284 = TL_law_1284 := dr3 DL_law_1281
theorem DL_law_1285 : cL_law.data.toList.drop 1285 = TL_law_1285 := dr1 DL_law_1284
theorem DL_law_1286 : cL_law.data.toList.drop 1286 = TL_law_1286 := dr1 DL_law_1285
theorem DL_law_1288 : cL_law.data.toList.drop 1288 = TL_law_1288 := dr2 DL_law_1286
theorem DL_law_1289 : cL_law.data.toList.drop 1289 = TL_law_1289 := dr1 DL_law_1288
theorem DL_law_1290 : cL_law.data.toList.drop 1290 = TL_law_1290 := dr1 DL_law_1289
theorem DL_law_1291 : cL_law.data.toList.drop 1291 = TL_law_1291 := dr1 DL_law_1290
theorem DL_law_1292 : cL_law.data.toList.drop 1292 = TL_law_1292 := dr1 DL_law_1291
theorem DL_law_1294 : cL_law.data.toList.drop 1294 = TL_law_1294 := dr2 DL_law_1292
theorem DL_law_1295 : cL_law.data.toList.drop 1295 = TL_law_1295 := dr1 DL_law_1294
theorem DL_law_1296 : cL_law.data.toList.drop 1296 = TL_law_1296 := dr1 DL_law_1295
theorem DL_law_1297 : cL_law.data.toList.drop 1297 = TL_law_1297 := dr1 DL_law_1296
theorem DL_law_1300 : cL_law.data.toList.drop 1300 = TL_law_1300 := dr3 DL_law_1297
theorem DL_law_1301 : cL_law.data.toList.drop 1301 = TL_law_1301 := dr1 DL_law_1300
theorem DL_law_1304 : cL_law.data.toList.drop 1304 = TL_law_1304 := dr3 DL_law_1301
theorem DL_law_1305 : cL_law.data.toList.drop 1305 = TL_law_1305 := dr1 DL_law_1304
theorem DL_law_1306 : cL_law.data.toList.drop 1306 = TL_law_1306 := dr1 DL_law_1305
theorem DL_law_1309 : cL_law.data.toList.drop 1309 = TL_law_1309 := dr3 DL_law_1306
theorem DL_law_1311 : cL_law.data.toList.drop 1311 = TL_law_1311 := dr2 DL_law_1309
theorem DL_law_1312 : cL_law.data.toList.drop 1312 = TL_law_1312 := dr1 DL_law_1311
theorem DL_law_1313 : cL_law.data.toList.drop 1313 = TL_law_1313 := dr1 DL_law_1312
theorem DL_law_1315 : cL_law.data.toList.drop 1315 = TL_law_1315 := dr2 DL_law_1313
theorem DL_law_1316 : cL_law.data.toList.drop 1316 = TL_law_1316 := dr1 DL_law_1315
theorem DL_law_1317 : cL_law.data.toList.drop 1317 = TL_law_1317 := dr1 DL_law_1316
theorem DL_law_1318 : cL_law.data.toList.drop 1318 = TL_law_1318 := dr1 DL_law_1317
theorem DL_law_1319 : cL_law.data.toList.drop 1319 = TL_law_1319 := dr1 DL_law_1318
theorem DL_law_1321 : cL_law.data.toList.drop 1321 = TL_law_1321 := dr2 DL_law_1319
theorem DL_law_1322 : cL_law.data.toList.drop 1322 = TL_law_1322 := dr1 DL_law_1321
theorem DL_law_1323 : cL_law.data.toList.drop 1323 = TL_law_1323 := dr1 DL_law_1322
theorem DL_law_1324 : cL_law.data.toList.drop 1324 = TL_law_1324 := dr1 DL_law_1323
theorem DL_law_1327 : cL_law.data.toList.drop 1327 = TL_law_1327 := dr3 DL_law_1324
theorem DL_law_1328 : cL_law.data.toList.drop 1328 = TL_law_1328 := dr1 DL_law_1327
theorem DL_law_1331 : cL_law.data.toList.drop 1331 = TL_law_1331 := dr3 DL_law_1328
theorem DL_law_1332 : cL_law.data.toList.drop 1332 = TL_law_1332 := dr1 DL_law_1331
theorem DL_law_1335 : cL_law.data.toList.drop 1335 = TL_law_1335 := dr3 DL_law_1332
theorem DL_law_1337 : cL_law.data.toList.drop 1337 = TL_law_1337 := dr2 DL_law_1335
theorem DL_law_1338 : cL_law.data.toList.drop 1338 = TL_law_1338 := dr1 DL_law_1337
theorem DL_law_1341 : cL_law.data.toList.drop 1341 = TL_law_1341 := dr3 DL_law_1338
theorem DL_law_1343 : cL_law.data.toList.drop 1343 = TL_law_1343 := dr2 DL_law_1341
theorem DL_law_1346 : cL_law.data.toList.drop 1346 = TL_law_1346 := dr3 DL_law_1343
theorem DL_law_1347 : cL_law.data.toList.drop 1347 = TL_law_1347 := dr1 DL_law_1346
theorem DL_law_1348 : cL_law.data.toList.drop 1348 = TL_law_1348 := dr1 DL_law_1347
theorem DL_law_1350 : cL_law.data.toList.drop 1350 = TL_law_1350 := dr2 DL_law_1348
theorem DL_law_1353 : cL_law.data.toList.drop 1353 = TL_law_1353 := dr3 DL_law_1350
theorem DL_law_1354 : cL_law.data.toList.drop 1354 = TL_law_1354 := dr1 DL_law_1353
theorem DL_law_1357 : cL_law.data.toList.drop 1357 = TL_law_1357 := dr3 DL_law_1354
theorem DL_law_1359 : cL_law.data.toList.drop 1359 = TL_law_1359 := dr2 DL_law_1357
theorem DL_law_1360 : cL_law.data.toList.drop 1360 = TL_law_1360 := dr1 DL_law_1359
theorem DL_law_1361 : cL_law.data.toList.drop 1361 = TL_law_1361 := dr1 DL_law_1360
theorem DL_law_1364 : cL_law.data.toList.drop 1364 = TL_law_1364 := dr3 DL_law_1361
theorem DL_law_1365 : cL_law.data.toList.drop 1365 = TL_law_1365 := dr1 DL_law_1364
theorem DL_law_1366 : cL_law.data.toList.drop 1366 = TL_law_1366 := dr1 DL_law_1365
theorem DL_law_1369 : cL_law.data.toList.drop 1369 = TL_law_1369 := dr3 DL_law_1366
theorem DL_law_1370 : cL_law.data.toList.drop 1370 = TL_law_1370 := dr1 DL_law_1369
theorem DL_law_1371 : cL_law.data.toList.drop 1371 = TL_law_1371 := dr1 DL_law_1370
theorem DL_law_1373 : cL_law.data.toList.drop 1373 = TL_law_1373 := dr2 DL_law_1371
theorem DL_law_1374 : cL_law.data.toList.drop 1374 = TL_law_1374 := dr1 DL_law_1373
theorem DL_law_1375 : cL_law.data.toList.drop 1375 = TL_law_1375 := dr1 DL_law_1374
theorem DL_law_1376 : cL_law.data.toList.drop 1376 = TL_law_1376 := dr1 DL_law_1375
theorem DL_law_1377 : cL_law.data.toList.drop 1377 = TL_law_1377 := dr1 DL_law_1376
theorem DL_law_1379 : cL_law.data.toList.drop 1379 = TL_law_1379 := dr2 DL_law_1377
theorem DL_law_1380 : cL_law.data.toList.drop 1380 = TL_law_1380 := dr1 DL_law_1379
theorem DL_law_1381 : cL_law.data.toList.drop 1381 = TL_law_1381 := dr1 DL_law_1380
theorem DL_law_1382 : cL_law.data.toList.drop 1382 = TL_law_1382 := dr1 DL_law_1381
theorem DL_law_1383 : cL_law.data.toList.drop 1383 = TL_law_1383 := dr1 DL_law_1382
theorem DL_law_1386 : cL_law.data.toList.drop 1386 = TL_law_1386 := dr3 DL_law_1383
theorem DL_law_1388 : cL_law.data.toList.drop 1388 = TL_law_1388 := dr2 DL_law_1386
theorem DL_law_1389 : cL_law.data.toList.drop 1389 = TL_law_1389 := dr1 DL_law_1388
theorem DL_law_1390 : cL_law.data.toList.drop 1390 = TL_law_1390 := dr1 DL_law_1389
theorem DL_law_1392 : cL_law.data.toList.drop 1392 = TL_law_1392 := dr2 DL_law_1390
theorem DL_law_1393 : cL_law.data.toList.drop 1393 = TL_law_1393 := dr1 DL_law_1392
theorem DL_law_1394 : cL_law.data.toList.drop 1394 = TL_law_1394 := dr1 DL_law_1393
theorem DL_law_1395 : cL_law.data.toList.drop 1395 = TL_law_1395 := dr1 DL_law_1394
theorem DL_law_1396 : cL_law.data.toList.drop 1396 = TL_law_1396 := dr1 DL_law_1395
theorem DL_law_1398 : cL_law.data.toList.drop 1398 = TL_law_1398 := dr2 DL_law_1396
theorem DL_law_1399 : cL_law.data.toList.drop 1399 = TL_law_1399 := dr1 DL_law_1398
theorem DL_law_1400 : cL_law.data.toList.drop 1400 = TL_law_1400 := dr1 DL_law_1399
theorem DL_law_1401 : cL_law.data.toList.drop 1401 = TL_law_1401 := dr1 DL_law_1400
theorem DL_law_1404 : cL_law.data.toList.drop 1404 = TL_law_1404 := dr3 DL_law_1401
theorem DL_law_1406 : cL_law.data.toList.drop 1406 = TL_law_1406 := dr2 DL_law_1404
theorem DL_law_1409 : cL_law.data.toList.drop 1409 = TL_law_1409 := dr3 DL_law_1406
theorem DL_law_1410 : cL_law.data.toList.drop 1410 = TL_law_1410 := dr1 DL_law_1409
theorem DL_law_1411 : cL_law.data.toList.drop 1411 = TL_law_1411 := dr1 DL_law_1410
theorem DL_law_1413 : cL_law.data.toList.drop 1413 = TL_law_1413 := dr2 DL_law_1411
theorem DL_law_1414 : cL_law.data.toList.drop 1414 = TL_law_1414 := dr1 DL_law_1413
theorem DL_law_1415 : cL_law.data.toList.drop 1415 = TL_law_1415 := dr1 DL_law_1414
theorem DL_law_1416 : cL_law.data.toList.drop 1416 = TL_law_1416 := dr1 DL_law_1415
theorem DL_law_1417 : cL_law.data.toList.drop 1417 = TL_law_1417 := dr1 DL_law_1416
theorem DL_law_1419 : cL_law.data.toList.drop 1419 = TL_law_1419 := dr2 DL_law_1417
theorem DL_law_1420 : cL_law.data.toList.drop 1420 = TL_law_1420 := dr1 DL_law_1419
theorem DL_law_1421 : cL_law.data.toList.drop 1421 = TL_law_1421 := dr1 DL_law_1420
theorem DL_law_1422 : cL_law.data.toList.drop 1422 = TL_law_1422 := dr1 DL_law_1421
theorem DL_law_1423 : cL_law.data.toList.drop 1423 = TL_law_1423 := dr1 DL_law_1422
theorem DL_law_1426 : cL_law.data.toList.drop 1426 = TL_law_1426 := dr3 DL_law_1423
theorem DL_law_1428 : cL_law.data.toList.drop 1428 = TL_law_1428 := dr2 DL_law_1426
theorem DL_law_1429 : cL_law.data.toList.drop 1429 = TL_law_1429 := dr1 DL_law_1428
theorem DL_law_1430 : cL_law.data.toList.drop 1430 = TL_law_1430 := dr1 DL_law_1429
theorem DL_law_1432 : cL_law.data.toList.drop 1432 = TL_law_1432 := dr2 DL_law_1430
theorem DL_law_1433 : cL_law.data.toList.drop 1433 = TL_law_1433 := dr1 DL_law_1432
theorem DL_law_1434 : cL_law.data.toList.drop 1434 = TL_law_1434 := dr1 DL_law_1433
theorem DL_law_1435 : cL_law.data.toList.drop 1435 = TL_law_1435 := dr1 DL_law_1434
theorem DL_law_1436 : cL_law.data.toList.drop 1436 = TL_law_1436 := dr1 DL_law_1435
theorem DL_law_1438 : cL_law.data.toList.drop 1438 = TL_law_1438 := dr2 DL_law_1436
theorem DL_law_1439 : cL_law.data.toList.drop 1439 = TL_law_1439 := dr1 DL_law_1438
theorem DL_law_1440 : cL_law.data.toList.drop 1440 = TL_law_1440 := dr1 DL_law_1439
theorem DL_law_1441 : cL_law.data.toList.drop 1441 = TL_law_1441 := dr1 DL_law_1440
theorem DL_law_1444 : cL_law.data.toList.drop 1444 = TL_law_1444 := dr3 DL_law_1441
theorem DL_law_1446 : cL_law.data.toList.drop 1446 = TL_law_1446 := dr2 DL_law_1444
theorem DL_law_1449 : cL_law.data.toList.drop 1449 = TL_law_1449 := dr3 DL_law_1446
theorem DL_law_1450 : cL_law.data.toList.drop 1450 = TL_law_1450 := dr1 DL_law_1449
theorem DL_law_1451 : cL_law.data.toList.drop 1451 = TL_law_1451 := dr1 DL_law_1450
theorem DL_law_1453 : cL_law.data.toList.drop 1453 = TL_law_1453 := dr2 DL_law_1451
theorem DL_law_1454 : cL_law.data.toList.drop 1454 = TL_law_1454 := dr1 DL_law_1453
theorem DL_law_1455 : cL_law.data.toList.drop 1455 = TL_law_1455 := dr1 DL_law_1454
theorem DL_law_1456 : cL_law.data.toList.drop 1456 = TL_law_1456 := dr1 DL_law_1455
theorem DL_law_1457 : cL_law.data.toList.drop 1457 = TL_law_1457 := dr1 DL_law_1456
theorem DL_law_1460 : cL_law.data.toList.drop 1460 = TL_law_1460 := dr3 DL_law_1457
theorem DL_law_1462 : cL_law.data.toList.drop 1462 = TL_law_1462 := dr2 DL_law_1460
theorem DL_law_1463 : cL_law.data.toList.drop 1463 = TL_law_1463 := dr1 DL_law_1462
theorem DL_law_1464 : cL_law.data.toList.drop 1464 = TL_law_1464 := dr1 DL_law_1463
theorem DL_law_1466 : cL_law.data.toList.drop 1466 = TL_law_1466 := dr2 DL_law_1464
theorem DL_law_1467 : cL_law.data.toList.drop 1467 = TL_law_1467 := dr1 DL_law_1466
theorem DL_law_1468 : cL_law.data.toList.drop 1468 = TL_law_1468 := dr1 DL_law_1467
theorem DL_law_1469 : cL_law.data.toList.drop 1469 = TL_law_1469 := dr1 DL_law_1468
theorem DL_law_1472 : cL_law.data.toList.drop 1472 = TL_law_1472 := dr3 DL_law_1469
theorem DL_law_1474 : cL_law.data.toList.drop 1474 = TL_law_1474 := dr2 DL_law_1472
theorem DL_law_1477 : cL_law.data.toList.drop 1477 = TL_law_1477 := dr3 DL_law_1474
theorem DL_law_1478 : cL_law.data.toList.drop 1478 = TL_law_1478 := dr1 DL_law_1477
theorem DL_law_1479 : cL_law.data.toList.drop 1479 = TL_law_1479 := dr1 DL_law_1478
theorem DL_law_1481 : cL_law.data.toList.drop 1481 = TL_law_1481 := dr2 DL_law_1479
theorem DL_law_1482 : cL_law.data.toList.drop 1482 = TL_law_1482 := dr1 DL_law_1481
theorem DL_law_1483 : cL_law.data.toList.drop 1483 = TL_law_1483 := dr1 DL_law_1482
theorem DL_law_1484 : cL_law.data.toList.drop 1484 = TL_law_1484 := dr1 DL_law_1483
theorem DL_law_1485 : cL_law.data.toList.drop 1485 = TL_law_1485 := dr1 DL_law_1484
theorem DL_law_1487 : cL_law.data.toList.drop 1487 = TL_law_1487 := dr2 DL_law_1485
theorem DL_law_1488 : cL_law.data.toList.drop 1488 = TL_law_1488 := dr1 DL_law_1487
theorem DL_law_1489 : cL_law.data.toList.drop 1489 = TL_law_1489 := dr1 DL_law_1488
theorem DL_law_1490 : cL_law.data.toList.drop 1490 = TL_law_1490 := dr1 DL_law_1489
theorem DL_law_1493 : cL_law.data.toList.drop 1493 = TL_law_1493 := dr3 DL_law_1490
theorem DL_law_1494 : cL_law.data.toList.drop 1494 = TL_law_1494 := dr1 DL_law_1493
theorem DL_law_1497 : cL_law.data.toList.drop 1497 = TL_law_1497 := dr3 DL_law_1494
theorem DL_law_1498 : cL_law.data.toList.drop 1498 = TL_law_1498 := dr1 DL_law_1497
theorem DL_law_1499 : cL_law.data.toList.drop 1499 = TL_law_1499 := dr1 DL_law_1498
theorem DL_law_1502 : cL_law.data.toList.drop 1502 = TL_law_1502 := dr3 DL_law_1499
theorem DL_law_1504 : cL_law.data.toList.drop 1504 = TL_law_1504 := dr2 DL_law_1502
theorem DL_law_1505 : cL_law.data.toList.drop 1505 = TL_law_1505 := dr1 DL_law_1504
theorem DL_law_1506 : cL_law.data.toList.drop 1506 = TL_law_1506 := dr1 DL_law_1505
theorem DL_law_1508 : cL_law.data.toList.drop 1508 = TL_law_1508 := dr2 DL_law_1506
theorem DL_law_1509 : cL_law.data.toList.drop 1509 = TL_law_1509 := dr1 DL_law_1508
theorem DL_law_1510 : cL_law.data.toList.drop 1510 = TL_law_1510 := dr1 DL_law_1509
theorem DL_law_1511 : cL_law.data.toList.drop 1511 = TL_law_1511 := dr1 DL_law_1510
theorem DL_law_1512 : cL_law.data.toList.drop 1512 = TL_law_1512 := dr1 DL_law_1511
theorem DL_law_1514 : cL_law.data.toList.drop 1514 = TL_law_1514 := dr2 DL_law_1512
theorem DL_law_1515 : cL_law.data.toList.drop 1515 = TL_law_1515 := dr1 DL_law_1514
theorem DL_law_1516 : cL_law.data.toList.drop 1516 = TL_law_1516 := dr1 DL_law_1515
theorem DL_law_1517 : cL_law.data.toList.drop 1517 = TL_law_1517 := dr1 DL_law_1516
theorem DL_law_1520 : cL_law.data.toList.drop 1520 = TL_law_1520 := dr3 DL_law_1517
theorem DL_law_1521 : cL_law.data.toList.drop 1521 = TL_law_1521 := dr1 DL_law_1520
theorem DL_law_1524 : cL_law.data.toList.drop 1524 = TL_law_1524 := dr3 DL_law_1521
theorem DL_law_1525 : cL_law.data.toList.drop 1525 = TL_law_1525 := dr1 DL_law_1524
theorem DL_law_1528 : cL_law.data.toList.drop 1528 = TL_law_1528 := dr3 DL_law_1525
theorem DL_law_1530 : cL_law.data.toList.drop 1530 = TL_law_1530 := dr2 DL_law_1528
theorem DL_law_1533 : cL_law.data.toList.drop 1533 = TL_law_1533 := dr3 DL_law_1530
theorem DL_law_1534 : cL_law.data.toList.drop 1534 = TL_law_1534 := dr1 DL_law_1533
theorem DL_law_1535 : cL_law.data.toList.drop 1535 = TL_law_1535 := dr1 DL_law_1534
theorem DL_law_1537 : cL_law.data.toList.drop 1537 = TL_law_1537 := dr2 DL_law_1535
theorem DL_law_1538 : cL_law.data.toList.drop 1538 = TL_law_1538 := dr1 DL_law_1537
theorem DL_law_1539 : cL_law.data.toList.drop 1539 = TL_law_1539 := dr1 DL_law_1538
theorem DL_law_1540 : cL_law.data.toList.drop 1540 = TL_law_1540 := dr1 DL_law_1539
theorem DL_law_1541 : cL_law.data.toList.drop 1541 = TL_law_1541 := dr1 DL_law_1540
theorem DL_law_1544 : cL_law.data.toList.drop 1544 = TL_law_1544 := dr3 DL_law_1541
theorem DL_law_1546 : cL_law.data.toList.drop 1546 = TL_law_1546 := dr2 DL_law_1544
theorem DL_law_1547 : cL_law.data.toList.drop 1547 = TL_law_1547 := dr1 DL_law_1546
theorem DL_law_1548 : cL_law.data.toList.drop 1548 = TL_law_1548 := dr1 DL_law_1547
theorem DL_law_1550 : cL_law.data.toList.drop 1550 = TL_law_1550 := dr2 DL_law_1548
theorem DL_law_1551 : cL_law.data.toList.drop 1551 = TL_law_1551 := dr1 DL_law_1550
theorem DL_law_1552 : cL_law.data.toList.drop 1552 = TL_law_1552 := dr1 DL_law_1551
theorem DL_law_1553 : cL_law.data.toList.drop 1553 = TL_law_1553 := dr1 DL_law_1552
theorem DL_law_1556 : cL_law.data.toList.drop 1556 = TL_law_1556 := dr3 DL_law_1553
theorem DL_law_1558 : cL_law.data.toList.drop 1558 = TL_law_1558 := dr2 DL_law_1556
theorem DL_law_1561 : cL_law.data.toList.drop 1561 = TL_law_1561 := dr3 DL_law_1558
theorem DL_law_1562 : cL_law.data.toList.drop 1562 = TL_law_1562 := dr1 DL_law_1561
theorem DL_law_1563 : cL_law.data.toList.drop 1563 = TL_law_1563 := dr1 DL_law_1562
theorem DL_law_1565 : cL_law.data.toList.drop 1565 = TL_law_1565 := dr2 DL_law_1563
theorem DL_law_1566 : cL_law.data.toList.drop 1566 = TL_law_1566 := dr1 DL_law_1565
theorem DL_law_1567 : cL_law.data.toList.drop 1567 = TL_law_1567 := dr1 DL_law_1566
theorem DL_law_1568 : cL_law.data.toList.drop 1568 = TL_law_1568 := dr1 DL_law_1567
theorem DL_law_1569 : cL_law.data.toList.drop 1569 = TL_law_1569 := dr1 DL_law_1568
theorem DL_law_1571 : cL_law.data.toList.drop 1571 = TL_law_1571 := dr2 DL_law_1569
theorem DL_law_1572 : cL_law.data.toList.drop 1572 = TL_law_1572 := dr1 DL_law_1571
theorem DL_law_1573 : cL_law.data.toList.drop 1573 = TL_law_1573 := dr1 DL_law_1572
theorem DL_law_1574 : cL_law.data.toList.drop 1574 = TL_law_1574 := dr1 DL_law_1573
theorem DL_law_1577 : cL_law.data.toList.drop 1577 = TL_law_1577 := dr3 DL_law_1574
theorem DL_law_1578 : cL_law.data.toList.drop 1578 = TL_law_1578 := dr1 DL_law_1577
theorem DL_law_1581 : cL_law.data.toList.drop 1581 = TL_law_1581 := dr3 DL_law_1578
theorem DL_law_1582 : cL_law.data.toList.drop 1582 = TL_law_1582 := dr1 DL_law_1581
theorem DL_law_1583 : cL_law.data.toList.drop 1583 = TL_law_1583 := dr1 DL_law_1582
theorem DL_law_1585 : cL_law.data.toList.drop 1585 = TL_law_1585 := dr2 DL_law_1583
theorem DL_law_1586 : cL_law.data.toList.drop 1586 = TL_law_1586 := dr1 DL_law_1585
theorem DL_law_1587 : cL_law.data.toList.drop 1587 = TL_law_1587 := dr1 DL_law_1586
theorem DL_law_1588 : cL_law.data.toList.drop 1588 = TL_law_1588 := dr1 DL_law_1587
theorem DL_law_1589 : cL_law.data.toList.drop 1589 = TL_law_1589 := dr1 DL_law_1588
theorem DL_law_1592 : cL_law.data.toList.drop 1592 = TL_law_1592 := dr3 DL_law_1589
theorem DL_law_1594 : cL_law.data.toList.drop 1594 = TL_law_1594 := dr2 DL_law_1592
theorem DL_law_1595 : cL_law.data.toList.drop 1595 = TL_law_1595 := dr1 DL_law_1594
theorem DL_law_1596 : cL_law.data.toList.drop 1596 = TL_law_1596 := dr1 DL_law_1595
theorem DL_law_1598 : cL_law.data.toList.drop 1598 = TL_law_1598 := dr2 DL_law_1596
theorem DL_law_1599 : cL_law.data.toList.drop 1599 = TL_law_1599 := dr1 DL_law_1598
theorem DL_law_1600 : cL_law.data.toList.drop 1600 = TL_law_1600 := dr1 DL_law_1599
theorem DL_law_1601 : cL_law.data.toList.drop 1601 = TL_law_1601 := dr1 DL_law_1600
theorem DL_law_1602 : cL_law.data.toList.drop 1602 = TL_law_1602 := dr1 DL_law_1601
theorem DL_law_1604 : cL_law.data.toList.drop 1604 = TL_law_1604 := dr2 DL_law_1602
theorem DL_law_1605 : cL_law.data.toList.drop 1605 = TL_law_1605 := dr1 DL_law_1604
theorem DL_law_1606 : cL_law.data.toList.drop 1606 = TL_law_1606 := dr1 DL_law_1605
theorem DL_law_1607 : cL_law.data.toList.drop 1607 = TL_law_1607 := dr1 DL_law_1606
theorem DL_law_1610 : cL_law.data.toList.drop 1610 = TL_law_1610 := dr3 DL_law_1607
theorem DL_law_1611 : cL_law.data.toList.drop 1611 = TL_law_1611 := dr1 DL_law_1610
theorem DL_law_1614 : cL_law.data.toList.drop 1614 = TL_law_1614 := dr3 DL_law_1611
theorem DL_law_1615 : cL_law.data.toList.drop 1615 = TL_law_1615 := dr1 DL_law_1614
theorem DL_law_1616 : cL_law.data.toList.drop 1616 = TL_law_1616 := dr1 DL_law_1615
theorem DL_law_1618 : cL_law.data.toList.drop 1618 = TL_law_1618 := dr2 DL_law_1616
theorem DL_law_1619 : cL_law.data.toList.drop 1619 = TL_law_1619 := dr1 DL_law_1618
theorem DL_law_1620 : cL_law.data.toList.drop 1620 = TL_law_1620 := dr1 DL_law_1619
theorem DL_law_1621 : cL_law.data.toList.drop 1621 = TL_law_1621 := dr1 DL_law_1620
theorem DL_law_1624 : cL_law.data.toList.drop 1624 = TL_law_1624 := dr3 DL_law_1621
theorem DL_law_1626 : cL_law.data.toList.drop 1626 = TL_law_1626 := dr2 DL_law_1624
theorem DL_law_1629 : cL_law.data.toList.drop 1629 = TL_law_1629 := dr3 DL_law_1626
theorem DL_law_1630 : cL_law.data.toList.drop 1630 = TL_law_1630 := dr1 DL_law_1629
theorem DL_law_1631 : cL_law.data.toList.drop 1631 = TL_law_1631 := dr1 DL_law_1630
theorem DL_law_1633 : cL_law.data.toList.drop 1633 = TL_law_1633 := dr2 DL_law_1631
theorem DL_law_1634 : cL_law.data.toList.drop 1634 = TL_law_1634 := dr1 DL_law_1633
theorem DL_law_1635 : cL_law.data.toList.drop 1635 = TL_law_1635 := dr1 DL_law_1634
theorem DL_law_1636 : cL_law.data.toList.drop 1636 = TL_law_1636 := dr1 DL_law_1635
theorem DL_law_1637 : cL_law.data.toList.drop 1637 = TL_law_1637 := dr1 DL_law_1636
theorem DL_law_1640 : cL_law.data.toList.drop 1640 = TL_law_1640 := dr3 DL_law_1637
theorem DL_law_1642 : cL_law.data.toList.drop 1642 = TL_law_1642 := dr2 DL_law_1640
theorem DL_law_1643 : cL_law.data.toList.drop 1643 = TL_law_1643 := dr1 DL_law_1642
theorem DL_law_1644 : cL_law.data.toList.drop 1644 = TL_law_1644 := dr1 DL_law_1643
theorem DL_law_1646 : cL_law.data.toList.drop 1646 = TL_law_1646 := dr2 DL_law_1644
theorem DL_law_1647 : cL_law.data.toList.drop 1647 = TL_law_1647 := dr1 DL_law_1646
theorem DL_law_1648 : cL_law.data.toList.drop 1648 = TL_law_1648 := dr1 DL_law_1647
theorem DL_law_1649 : cL_law.data.toList.drop 1649 = TL_law_1649 := dr1 DL_law_1648
theorem DL_law_1652 : cL_law.data.toList.drop 1652 = TL_law_1652 := dr3 DL_law_1649
theorem DL_law_1654 : cL_law.data.toList.drop 1654 = TL_law_1654 := dr2 DL_law_1652
theorem DL_law_1657 : cL_law.data.toList.drop 1657 = TL_law_1657 := dr3 DL_law_1654
theorem DL_law_1658 : cL_law.data.toList.drop 1658 = TL_law_1658 := dr1 DL_law_1657
theorem DL_law_1659 : cL_law.data.toList.drop 1659 = TL_law_1659 := dr1 DL_law_1658
theorem DL_law_1661 : cL_law.data.toList.drop 1661 = TL_law_1661 := dr2 DL_law_1659
theorem DL_law_1662 : cL_law.data.toList.drop 1662 = TL_law_1662 := dr1 DL_law_1661
theorem DL_law_1663 : cL_law.data.toList.drop 1663 = TL_law_1663 := dr1 DL_law_1662
theorem DL_law_1664 : cL_law.data.toList.drop 1664 = TL_law_1664 := dr1 DL_law_1663
theorem DL_law_1665 : cL_law.data.toList.drop 1665 = TL_law_1665 := dr1 DL_law_1664
theorem DL_law_1667 : cL_law.data.toList.drop 1667 = TL_law_1667 := dr2 DL_law_1665
theorem DL_law_1668 : cL_law.data.toList.drop 1668 = TL_law_1668 := dr1 DL_law_1667
theorem DL_law_1669 : cL_law.data.toList.drop 1669 = TL_law_1669 := dr1 DL_law_1668
theorem DL_law_1670 : cL_law.data.toList.drop 1670 = TL_law_1670 := dr1 DL_law_1669
theorem DL_law_1671 : cL_law.data.toList.drop 1671 = TL_law_1671 := dr1 DL_law_1670
theorem DL_law_1673 : cL_law.data.toList.drop 1673 = TL_law_1673 := dr2 DL_law_1671
theorem DL_law_1674 : cL_law.data.toList.drop 1674 = TL_law_1674 := dr1 DL_law_1673
theorem DL_law_1675 : cL_law.data.toList.drop 1675 = TL_law_1675 := dr1 DL_law_1674
theorem DL_law_1676 : cL_law.data.toList.drop 1676 = TL_law_1676 := dr1 DL_law_1675
theorem DL_law_1679 : cL_law.data.toList.drop 1679 = TL_law_1679 := dr3 DL_law_1676
theorem DL_law_1680 : cL_law.data.toList.drop 1680 = TL_law_1680 := dr1 DL_law_1679
theorem DL_law_1683 : cL_law.data.toList.drop 1683 = TL_law_1683 := dr3 DL_law_1680
theorem DL_law_1684 : cL_law.data.toList.drop 1684 = TL_law_1684 := dr1 DL_law_1683
theorem DL_law_1685 : cL_law.data.toList.drop 1685 = TL_law_1685 := dr1 DL_law_1684
theorem DL_law_1688 : cL_law.data.toList.drop 1688 = TL_law_1688 := dr3 DL_law_1685
theorem DL_law_1690 : cL_law.data.toList.drop 1690 = TL_law_1690 := dr2 DL_law_1688
theorem DL_law_1691 : cL_law.data.toList.drop 1691 = TL_law_1691 := dr1 DL_law_1690
theorem DL_law_1692 : cL_law.data.toList.drop 1692 = TL_law_1692 := dr1 DL_law_1691
theorem DL_law_1694 : cL_law.data.toList.drop 1694 = TL_law_1694 := dr2 DL_law_1692
theorem DL_law_1695 : cL_law.data.toList.drop 1695 = TL_law_1695 := dr1 DL_law_1694
theorem DL_law_1696 : cL_law.data.toList.drop 1696 = TL_law_1696 := dr1 DL_law_1695
theorem DL_law_1697 : cL_law.data.toList.drop 1697 = TL_law_1697 := dr1 DL_law_1696
theorem DL_law_1698 : cL_law.data.toList.drop 1698 = TL_law_1698 := dr1 DL_law_1697
theorem DL_law_1700 : cL_law.data.toList.drop 1700 = TL_law_1700 := dr2 DL_law_1698
theorem DL_law_1701 : cL_law.data.toList.drop 1701 = TL_law_1701 := dr1 DL_law_1700
theorem DL_law_1702 : cL_law.data.toList.drop 1702 = TL_law_1702 := dr1 DL_law_1701
theorem DL_law_1703 : cL_law.data.toList.drop 1703 = TL_law_1703 := dr1 DL_law_1702
theorem DL_law_1704 : cL_law.data.toList.drop 1704 = TL_law_1704 := dr1 DL_law_1703
theorem DL_law_1706 : cL_law.data.toList.drop 1706 = TL_law_1706 := dr2 DL_law_1704
theorem DL_law_1707 : cL_law.data.toList.drop 1707 = TL_law_1707 := dr1 DL_law_1706
theorem DL_law_1708 : cL_law.data.toList.drop 1708 = TL_law_1708 := dr1 DL_law_1707
theorem DL_law_1709 : cL_law.data.toList.drop 1709 = TL_law_1709 := dr1 DL_law_1708
theorem DL_law_1712 : cL_law.data.toList.drop 1712 = TL_law_1712 := dr3 DL_law_1709
theorem DL_law_1713 : cL_law.data.toList.drop 1713 = TL_law_1713 := dr1 DL_law_1712
theorem DL_law_1716 : cL_law.data.toList.drop 1716 = TL_law_1716 := dr3 DL_law_1713
theorem DL_law_1717 : cL_law.data.toList.drop 1717 = TL_law_1717 := dr1 DL_law_1716
theorem DL_law_1720 : cL_law.data.toList.drop 1720 = TL_law_1720 := dr3 DL_law_1717
theorem DL_law_1722 : cL_law.data.toList.drop 1722 = TL_law_1722 := dr2 DL_law_1720
theorem DL_law_1725 : cL_law.data.toList.drop 1725 = TL_law_1725 := dr3 DL_law_1722
theorem DL_law_1726 : cL_law.data.toList.drop 1726 = TL_law_1726 := dr1 DL_law_1725
theorem DL_law_1727 : cL_law.data.toList.drop 1727 = TL_law_1727 := dr1 DL_law_1726
theorem DL_law_1729 : cL_law.data.toList.drop 1729 = TL_law_1729 := dr2 DL_law_1727
theorem DL_law_1730 : cL_law.data.toList.drop 1730 = TL_law_1730 := dr1 DL_law_1729
theorem DL_law_1731 : cL_law.data.toList.drop 1731 = TL_law_1731 := dr1 DL_law_1730
theorem DL_law_1732 : cL_law.data.toList.drop 1732 = TL_law_1732 := dr1 DL_law_1731
theorem DL_law_1733 : cL_law.data.toList.drop 1733 = TL_law_1733 := dr1 DL_law_1732
theorem DL_law_1735 : cL_law.data.toList.drop 1735 = TL_law_1735 := dr2 DL_law_1733
theorem DL_law_1736 : cL_law.data.toList.drop 1736 = TL_law_1736 := dr1 DL_law_1735
theorem DL_law_1737 : cL_law.data.toList.drop 1737 = TL_law_1737 := dr1 DL_law_1736
theorem DL_law_1738 : cL_law.data.toList.drop 1738 = TL_law_1738 := dr1 DL_law_1737
theorem DL_law_1739 : cL_law.data.toList.drop 1739 = TL_law_1739 := dr1 DL_law_1738
theorem DL_law_1742 : cL_law.data.toList.drop 1742 = TL_law_1742 := dr3 DL_law_1739
theorem DL_law_1744 : cL_law.data.toList.drop 1744 = TL_law_1744 := dr2 DL_law_1742
theorem DL_law_1745 : cL_law.data.toList.drop 1745 = TL_law_1745 := dr1 DL_law_1744
theorem DL_law_1746 : cL_law.data.toList.drop 1746 = TL_law_1746 := dr1 DL_law_1745
theorem DL_law_1748 : cL_law.data.toList.drop 1748 = TL_law_1748 := dr2 DL_law_1746
theorem DL_law_1749 : cL_law.data.toList.drop 1749 = TL_law_1749 := dr1 DL_law_1748
theorem DL_law_1750 : cL_law.data.toList.drop 1750 = TL_law_1750 := dr1 DL_law_1749
theorem DL_law_1751 : cL_law.data.toList.drop 1751 = TL_law_1751 := dr1 DL_law_1750
theorem DL_law_1752 : cL_law.data.toList.drop 1752 = TL_law_1752 := dr1 DL_law_1751
theorem DL_law_1754 : cL_law.data.toList.drop 1754 = TL_law_1754 := dr2 DL_law_1752
theorem DL_law_1755 : cL_law.data.toList.drop 1755 = TL_law_1755 := dr1 DL_law_1754
theorem DL_law_1756 : cL_law.data.toList.drop 1756 = TL_law_1756 := dr1 DL_law_1755
theorem DL_law_1757 : cL_law.data.toList.drop 1757 = TL_law_1757 := dr1 DL_law_1756
theorem DL_law_1760 : cL_law.data.toList.drop 1760 = TL_law_1760 := dr3 DL_law_1757
theorem DL_law_1762 : cL_law.data.toList.drop 1762 = TL_law_1762 := dr2 DL_law_1760
theorem DL_law_1765 : cL_law.data.toList.drop 1765 = TL_law_1765 := dr3 DL_law_1762
theorem DL_law_1766 : cL_law.data.toList.drop 1766 = TL_law_1766 := dr1 DL_law_1765
theorem DL_law_1767 : cL_law.data.toList.drop 1767 = TL_law_1767 := dr1 DL_law_1766
theorem DL_law_1769 : cL_law.data.toList.drop 1769 = TL_law_1769 := dr2 DL_law_1767
theorem DL_law_1770 : cL_law.data.toList.drop 1770 = TL_law_1770 := dr1 DL_law_1769
theorem DL_law_1771 : cL_law.data.toList.drop 1771 = TL_law_1771 := dr1 DL_law_1770
theorem DL_law_1772 : cL_law.data.toList.drop 1772 = TL_law_1772 := dr1 DL_law_1771
theorem DL_law_1775 : cL_law.data.toList.drop 1775 = TL_law_1775 := dr3 DL_law_1772
theorem DL_law_1776 : cL_law.data.toList.drop 1776 = TL_law_1776 := dr1 DL_law_1775
theorem DL_law_1779 : cL_law.data.toList.drop 1779 = TL_law_1779 := dr3 DL_law_1776
theorem DL_law_1780 : cL_law.data.toList.drop 1780 = TL_law_1780 := dr1 DL_law_1779
theorem DL_law_1781 : cL_law.data.toList.drop 1781 = TL_law_1781 := dr1 DL_law_1780
theorem DL_law_1783 : cL_law.data.toList.drop 1783 = TL_law_1783 := dr2 DL_law_1781
theorem DL_law_1784 : cL_law.data.toList.drop 1784 = TL_law_1784 := dr1 DL_law_1783
theorem DL_law_1785 : cL_law.data.toList.drop 1785 = TL_law_1785 := dr1 DL_law_1784
theorem DL_law_1786 : cL_law.data.toList.drop 1786 = TL_law_1786 := dr1 DL_law_1785
theorem DL_law_1789 : cL_law.data.toList.drop 1789 = TL_law_1789 := dr3 DL_law_1786
theorem DL_law_1790 : cL_law.data.toList.drop 1790 = TL_law_1790 := dr1 DL_law_1789
theorem DL_law_1793 : cL_law.data.toList.drop 1793 = TL_law_1793 := dr3 DL_law_1790
theorem DL_law_1794 : cL_law.data.toList.drop 1794 = TL_law_1794 := dr1 DL_law_1793
theorem DL_law_1797 : cL_law.data.toList.drop 1797 = TL_law_1797 := dr3 DL_law_1794
theorem DL_law_1798 : cL_law.data.toList.drop 1798 = TL_law_1798 := dr1 DL_law_1797
theorem DL_law_1799 : cL_law.data.toList.drop 1799 = TL_law_1799 := dr1 DL_law_1798
theorem DL_law_1800 : cL_law.data.toList.drop 1800 = TL_law_1800 := dr1 DL_law_1799
theorem DL_law_1802 : cL_law.data.toList.drop 1802 = TL_law_1802 := dr2 DL_law_1800
theorem DL_law_1803 : cL_law.data.toList.drop 1803 = TL_law_1803 := dr1 DL_law_1802
theorem DL_law_1804 : cL_law.data.toList.drop 1804 = TL_law_1804 := dr1 DL_law_1803
theorem DL_law_1805 : cL_law.data.toList.drop 1805 = TL_law_1805 := dr1 DL_law_1804
theorem DL_law_1808 : cL_law.data.toList.drop 1808 = TL_law_1808 := dr3 DL_law_1805
theorem DL_law_1809 : cL_law.data.toList.drop 1809 = TL_law_1809 := dr1 DL_law_1808
theorem DL_law_1812 : cL_law.data.toList.drop 1812 = TL_law_1812 := dr3 DL_law_1809
theorem DL_law_1813 : cL_law.data.toList.drop 1813 = TL_law_1813 := dr1 DL_law_1812
theorem DL_law_1814 : cL_law.data.toList.drop 1814 = TL_law_1814 := dr1 DL_law_1813
theorem DL_law_1816 : cL_law.data.toList.drop 1816 = TL_law_1816 := dr2 DL_law_1814
theorem DL_law_1817 : cL_law.data.toList.drop 1817 = TL_law_1817 := dr1 DL_law_1816
theorem DL_law_1818 : cL_law.data.toList.drop 1818 = TL_law_1818 := dr1 DL_law_1817
theorem DL_law_1819 : cL_law.data.toList.drop 1819 = TL_law_1819 := dr1 DL_law_1818
theorem DL_law_1822 : cL_law.data.toList.drop 1822 = TL_law_1822 := dr3 DL_law_1819
theorem DL_law_1823 : cL_law.data.toList.drop 1823 = TL_law_1823 := dr1 DL_law_1822
theorem DL_law_1826 : cL_law.data.toList.drop 1826 = TL_law_1826 := dr3 DL_law_1823
theorem DL_law_1827 : cL_law.data.toList.drop 1827 = TL_law_1827 := dr1 DL_law_1826
theorem DL_law_1830 : cL_law.data.toList.drop 1830 = TL_law_1830 := dr3 DL_law_1827
theorem DL_law_1831 : cL_law.data.toList.drop 1831 = TL_law_1831 := dr1 DL_law_1830
theorem DL_law_1834 : cL_law.data.toList.drop 1834 = TL_law_1834 := dr3 DL_law_1831
theorem DL_law_1835 : cL_law.data.toList.drop 1835 = TL_law_1835 := dr1 DL_law_1834
theorem DL_law_1836 : cL_law.data.toList.drop 1836 = TL_law_1836 := dr1 DL_law_1835
theorem DL_law_1838 : cL_law.data.toList.drop 1838 = TL_law_1838 := dr2 DL_law_1836
theorem DL_law_1839 : cL_law.data.toList.drop 1839 = TL_law_1839 := dr1 DL_law_1838
theorem DL_law_1840 : cL_law.data.toList.drop 1840 = TL_law_1840 := dr1 DL_law_1839
theorem DL_law_1841 : cL_law.data.toList.drop 1841 = TL_law_1841 := dr1 DL_law_1840
theorem DL_law_1842 : cL_law.data.toList.drop 1842 = TL_law_1842 := dr1 DL_law_1841
theorem DL_law_1844 : cL_law.data.toList.drop 1844 = TL_law_1844 := dr2 DL_law_1842
theorem DL_law_1845 : cL_law.data.toList.drop 1845 = TL_law_1845 := dr1 DL_law_1844
theorem DL_law_1846 : cL_law.data.toList.drop 1846 = TL_law_1846 := dr1 DL_law_1845
theorem DL_law_1847 : cL_law.data.toList.drop 1847 = TL_law_1847 := dr1 DL_law_1846
theorem DL_law_1848 : cL_law.data.toList.drop 1848 = TL_law_1848 := dr1 DL_law_1847
theorem DL_law_1851 : cL_law.data.toList.drop 1851 = TL_law_1851 := dr3 DL_law_1848
theorem DL_law_1853 : cL_law.data.toList.drop 1853 = TL_law_1853 := dr2 DL_law_1851
theorem DL_law_1854 : cL_law.data.toList.drop 1854 = TL_law_1854 := dr1 DL_law_1853
theorem DL_law_1855 : cL_law.data.toList.drop 1855 = TL_law_1855 := dr1 DL_law_1854
theorem DL_law_1857 : cL_law.data.toList.drop 1857 = TL_law_1857 := dr2 DL_law_1855
theorem DL_law_1858 : cL_law.data.toList.drop 1858 = TL_law_1858 := dr1 DL_law_1857
theorem DL_law_1859 : cL_law.data.toList.drop 1859 = TL_law_1859 := dr1 DL_law_1858
theorem DL_law_1860 : cL_law.data.toList.drop 1860 = TL_law_1860 := dr1 DL_law_1859
theorem DL_law_1861 : cL_law.data.toList.drop 1861 = TL_law_1861 := dr1 DL_law_1860
theorem DL_law_1863 : cL_law.data.toList.drop 1863 = TL_law_1863 := dr2 DL_law_1861
theorem DL_law_1864 : cL_law.data.toList.drop 1864 = TL_law_1864 := dr1 DL_law_1863
theorem DL_law_1865 : cL_law.data.toList.drop 1865 = TL_law_1865 := dr1 DL_law_1864
theorem DL_law_1866 : cL_law.data.toList.drop 1866 = TL_law_1866 := dr1 DL_law_1865
theorem DL_law_1869 : cL_law.data.toList.drop 1869 = TL_law_1869 := dr3 DL_law_1866
theorem DL_law_1871 : cL_law.data.toList.drop 1871 = TL_law_1871 := dr2 DL_law_1869
theorem DL_law_1874 : cL_law.data.toList.drop 1874 = TL_law_1874 := dr3 DL_law_1871
theorem DL_law_1875 : cL_law.data.toList.drop 1875 = TL_law_1875 := dr1 DL_law_1874
theorem DL_law_1876 : cL_law.data.toList.drop 1876 = TL_law_1876 := dr1 DL_law_1875
theorem DL_law_1878 : cL_law.data.toList.drop 1878 = TL_law_1878 := dr2 DL_law_1876
theorem DL_law_1879 : cL_law.data.toList.drop 1879 = TL_law_1879 := dr1 DL_law_1878
theorem DL_law_1880 : cL_law.data.toList.drop 1880 = TL_law_1880 := dr1 DL_law_1879
theorem DL_law_1881 : cL_law.data.toList.drop 1881 = TL_law_1881 := dr1 DL_law_1880
theorem DL_law_1882 : cL_law.data.toList.drop 1882 = TL_law_1882 := dr1 DL_law_1881
theorem DL_law_1885 : cL_law.data.toList.drop 1885 = TL_law_1885 := dr3 DL_law_1882
theorem DL_law_1887 : cL_law.data.toList.drop 1887 = TL_law_1887 := dr2 DL_law_1885
theorem DL_law_1888 : cL_law.data.toList.drop 1888 = TL_law_1888 := dr1 DL_law_1887
theorem DL_law_1889 : cL_law.data.toList.drop 1889 = TL_law_1889 := dr1 DL_law_1888
theorem DL_law_1891 : cL_law.data.toList.drop 1891 = TL_law_1891 := dr2 DL_law_1889
theorem DL_law_1892 : cL_law.data.toList.drop 1892 = TL_law_1892 := dr1 DL_law_1891
theorem DL_law_1893 : cL_law.data.toList.drop 1893 = TL_law_1893 := dr1 DL_law_1892
theorem DL_law_1894 : cL_law.data.toList.drop 1894 = TL_law_1894 := dr1 DL_law_1893
theorem DL_law_1897 : cL_law.data.toList.drop 1897 = TL_law_1897 := dr3 DL_law_1894
theorem DL_law_1899 : cL_law.data.toList.drop 1899 = TL_law_1899 := dr2 DL_law_1897
theorem DL_law_1902 : cL_law.data.toList.drop 1902 = TL_law_1902 := dr3 DL_law_1899
theorem DL_law_1903 : cL_law.data.toList.drop 1903 = TL_law_1903 := dr1 DL_law_1902
theorem DL_law_1904 : cL_law.data.toList.drop 1904 = TL_law_1904 := dr1 DL_law_1903
theorem DL_law_1906 : cL_law.data.toList.drop 1906 = TL_law_1906 := dr2 DL_law_1904
theorem DL_law_1907 : cL_law.data.toList.drop 1907 = TL_law_1907 := dr1 DL_law_1906
theorem DL_law_1908 : cL_law.data.toList.drop 1908 = TL_law_1908 := dr1 DL_law_1907
theorem DL_law_1909 : cL_law.data.toList.drop 1909 = TL_law_1909 := dr1 DL_law_1908
theorem DL_law_1910 : cL_law.data.toList.drop 1910 = TL_law_1910 := dr1 DL_law_1909
theorem DL_law_1913 : cL_law.data.toList.drop 1913 = TL_law_1913 := dr3 DL_law_1910
theorem DL_law_1915 : cL_law.data.toList.drop 1915 = TL_law_1915 := dr2 DL_law_1913
theorem DL_law_1916 : cL_law.data.toList.drop 1916 = TL_law_1916 := dr1 DL_law_1915
theorem DL_law_1917 : cL_law.data.toList.drop 1917 = TL_law_1917 := dr1 DL_law_1916
theorem DL_law_1919 : cL_law.data.toList.drop 1919 = TL_law_1919 := dr2 DL_law_1917
theorem DL_law_1920 : cL_law.data.toList.drop 1920 = TL_law_1920 := dr1 DL_law_1919
theorem DL_law_1921 : cL_law.data.toList.drop 1921 = TL_law_1921 := dr1 DL_law_1920
theorem DL_law_1922 : cL_law.data.toList.drop 1922 = TL_law_1922 := dr1 DL_law_1921
theorem DL_law_1925 : cL_law.data.toList.drop 1925 = TL_law_1925 := dr3 DL_law_1922
theorem DL_law_1927 : cL_law.data.toList.drop 1927 = TL_law_1927 := dr2 DL_law_1925
theorem DL_law_1930 : cL_law.data.toList.drop 1930 = TL_law_1930 := dr3 DL_law_1927
theorem DL_law_1931 : cL_law.data.toList.drop 1931 = TL_law_1931 := dr1 DL_law_1930
theorem DL_law_1932 : cL_law.data.toList.drop 1932 = TL_law_1932 := dr1 DL_law_1931
theorem DL_law_1934 : cL_law.data.toList.drop 1934 = TL_law_1934 := dr2 DL_law_1932
theorem DL_law_1935 : cL_law.data.toList.drop 1935 = TL_law_1935 := dr1 DL_law_1934
theorem DL_law_1936 : cL_law.data.toList.drop 1936 = TL_law_1936 := dr1 DL_law_1935
theorem DL_law_1937 : cL_law.data.toList.drop 1937 = TL_law_1937 := dr1 DL_law_1936
theorem DL_law_1938 : cL_law.data.toList.drop 1938 = TL_law_1938 := dr1 DL_law_1937
theorem DL_law_1940 : cL_law.data.toList.drop 1940 = TL_law_1940 := dr2 DL_law_1938
theorem DL_law_1941 : cL_law.data.toList.drop 1941 = TL_law_1941 := dr1 DL_law_1940
theorem DL_law_1942 : cL_law.data.toList.drop 1942 = TL_law_1942 := dr1 DL_law_1941
theorem DL_law_1943 : cL_law.data.toList.drop 1943 = TL_law_1943 := dr1 DL_law_1942
theorem DL_law_1944 : cL_law.data.toList.drop 1944 = TL_law_1944 := dr1 DL_law_1943
theorem DL_law_1947 : cL_law.data.toList.drop 1947 = TL_law_1947 := dr3 DL_law_1944
theorem DL_law_1949 : cL_law.data.toList.drop 1949 = TL_law_1949 := dr2 DL_law_1947
theorem DL_law_1950 : cL_law.data.toList.drop 1950 = TL_law_1950 := dr1 DL_law_1949
theorem DL_law_1951 : cL_law.data.toList.drop 1951 = TL_law_1951 := dr1 DL_law_1950
theorem DL_law_1953 : cL_law.data.toList.drop 1953 = TL_law_1953 := dr2 DL_law_1951
theorem DL_law_1954 : cL_law.data.toList.drop 1954 = TL_law_1954 := dr1 DL_law_1953
theorem DL_law_1955 : cL_law.data.toList.drop 1955 = TL_law_1955 := dr1 DL_law_1954
theorem DL_law_1956 : cL_law.data.toList.drop 1956 = TL_law_1956 := dr1 DL_law_1955
theorem DL_law_1957 : cL_law.data.toList.drop 1957 = TL_law_1957 := dr1 DL_law_1956
theorem DL_law_1959 : cL_law.data.toList.drop 1959 = TL_law_1959 := dr2 DL_law_1957
theorem DL_law_1960 : cL_law.data.toList.drop 1960 = TL_law_1960 := dr1 DL_law_1959
theorem DL_law_1961 : cL_law.data.toList.drop 1961 = TL_law_1961 := dr1 DL_law_1960
theorem DL_law_1962 : cL_law.data.toList.drop 1962 = TL_law_1962 := dr1 DL_law_1961
theorem DL_law_1965 : cL_law.data.toList.drop 1965 = TL_law_1965 := dr3 DL_law_1962
theorem DL_law_1967 : cL_law.data.toList.drop 1967 = TL_law_1967 := dr2 DL_law_1965
theorem DL_law_1970 : cL_law.data.toList.drop 1970 = TL_law_1970 := dr3 DL_law_1967
theorem DL_law_1971 : cL_law.data.toList.drop 1971 = TL_law_1971 := dr1 DL_law_1970
theorem DL_law_1972 : cL_law.data.toList.drop 1972 = TL_law_1972 := dr1 DL_law_1971
theorem DL_law_1974 : cL_law.data.toList.drop 1974 = TL_law_1974 := dr2 DL_law_1972
theorem DL_law_1975 : cL_law.data.toList.drop 1975 = TL_law_1975 := dr1 DL_law_1974
theorem DL_law_1976 : cL_law.data.toList.drop 1976 = TL_law_1976 := dr1 DL_law_1975
theorem DL_law_1977 : cL_law.data.toList.drop 1977 = TL_law_1977 := dr1 DL_law_1976
theorem DL_law_1978 : cL_law.data.toList.drop 1978 = TL_law_1978 := dr1 DL_law_1977
theorem DL_law_1981 : cL_law.data.toList.drop 1981 = TL_law_1981 := dr3 DL_law_1978
theorem DL_law_1983 : cL_law.data.toList.drop 1983 = TL_law_1983 := dr2 DL_law_1981
theorem DL_law_1984 : cL_law.data.toList.drop 1984 = TL_law_1984 := dr1 DL_law_1983
theorem DL_law_1985 : cL_law.data.toList.drop 1985 = TL_law_1985 := dr1 DL_law_1984
theorem DL_law_1987 : cL_law.data.toList.drop 1987 = TL_law_1987 := dr2 DL_law_1985
theorem DL_law_1988 : cL_law.data.toList.drop 1988 = TL_law_1988 := dr1 DL_law_1987
theorem DL_law_1989 : cL_law.data.toList.drop 1989 = TL_law_1989 := dr1 DL_law_1988
theorem DL_law_1990 : cL_law.data.toList.drop 1990 = TL_law_1990 := dr1 DL_law_1989
theorem DL_law_1993 : cL_law.data.toList.drop 1993 = TL_law_1993 := dr3 DL_law_1990
theorem DL_law_1995 : cL_law.data.toList.drop 1995 = TL_law_1995 := dr2 DL_law_1993
theorem DL_law_1998 : cL_law.data.toList.drop 1998 = TL_law_1998 := dr3 DL_law_1995
theorem DL_law_1999 : cL_law.data.toList.drop 1999 = TL_law_1999 := dr1 DL_law_1998
theorem DL_law_2000 : cL_law.data.toList.drop 2000 = TL_law_2000 := dr1 DL_law_1999
theorem DL_law_2002 : cL_law.data.toList.drop 2002 = TL_law_2002 := dr2 DL_law_2000
theorem DL_law_2003 : cL_law.data.toList.drop 2003 = TL_law_2003 := dr1 DL_law_2002
theorem DL_law_2004 : cL_law.data.toList.drop 2004 = TL_law_2004 := dr1 DL_law_2003
theorem DL_law_2005 : cL_law.data.toList.drop 2005 = TL_law_2005 := dr1 DL_law_2004
theorem DL_law_2006 : cL_law.data.toList.drop 2006 = TL_law_2006 := dr1 DL_law_2005
theorem DL_law_2008 : cL_law.data.toList.drop 2008 = TL_law_2008 := dr2 DL_law_2006
theorem DL_law_2009 : cL_law.data.toList.drop 2009 = TL_law_2009 := dr1 DL_law_2008
theorem DL_law_2010 : cL_law.data.toList.drop 2010 = TL_law_2010 := dr1 DL_law_2009
theorem DL_law_2011 : cL_law.data.toList.drop 2011 = TL_law_2011 := dr1 DL_law_2010
theorem DL_law_2012 : cL_law.data.toList.drop 2012 = TL_law_2012 := dr1 DL_law_2011
theorem DL_law_2015 : cL_law.data.toList.drop 2015 = TL_law_2015 := dr3 DL_law_2012
theorem DL_law_2017 : cL_law.data.toList.drop 2017 = TL_law_2017 := dr2 DL_law_2015
theorem DL_law_2018 : cL_law.data.toList.drop 2018 = TL_law_2018 := dr1 DL_law_2017
theorem DL_law_2019 : cL_law.data.toList.drop 2019 = TL_law_2019 := dr1 DL_law_2018
theorem DL_law_2021 : cL_law.data.toList.drop 2021 = TL_law_2021 := dr2 DL_law_2019
theorem DL_law_2022 : cL_law.data.toList.drop 2022 = TL_law_2022 := dr1 DL_law_2021
theorem DL_law_2023 : cL_law.data.toList.drop 2023 = TL_law_2023 := dr1 DL_law_2022
theorem DL_law_2024 : cL_law.data.toList.drop 2024 = TL_law_2024 := dr1 DL_law_2023
theorem DL_law_2025 : cL_law.data.toList.drop 2025 = TL_law_2025 := dr1 DL_law_2024
theorem DL_law_2027 : cL_law.data.toList.drop 2027 = TL_law_2027 := dr2 DL_law_2025
theorem DL_law_2028 : cL_law.data.toList.drop 2028 = TL_law_2028 := dr1 DL_law_2027
theorem DL_law_2029 : cL_law.data.toList.drop 2029 = TL_law_2029 := dr1 DL_law_2028
theorem DL_law_2030 : cL_law.data.toList.drop 2030 = TL_law_2030 := dr1 DL_law_2029
theorem DL_law_2033 : cL_law.data.toList.drop 2033 = TL_law_2033 := dr3 DL_law_2030
theorem DL_law_2035 : cL_law.data.toList.drop 2035 = TL_law_2035 := dr2 DL_law_2033
theorem DL_law_2038 : cL_law.data.toList.drop 2038 = TL_law_2038 := dr3 DL_law_2035
theorem DL_law_2039 : cL_law.data.toList.drop 2039 = TL_law_2039 := dr1 DL_law_2038
theorem DL_law_2040 : cL_law.data.toList.drop 2040 = TL_law_2040 := dr1 DL_law_2039
theorem DL_law_2042 : cL_law.data.toList.drop 2042 = TL_law_2042 := dr2 DL_law_2040
theorem DL_law_2043 : cL_law.data.toList.drop 2043 = TL_law_2043 := dr1 DL_law_2042
theorem DL_law_2044 : cL_law.data.toList.drop 2044 = TL_law_2044 := dr1 DL_law_2043
theorem DL_law_2045 : cL_law.data.toList.drop 2045 = TL_law_2045 := dr1 DL_law_2044
theorem DL_law_2046 : cL_law.data.toList.drop 2046 = TL_law_2046 := dr1 DL_law_2045
theorem DL_law_2048 : cL_law.data.toList.drop 2048 = TL_law_2048 := dr2 DL_law_2046
theorem DL_law_2049 : cL_law.data.toList.drop 2049 = TL_law_2049 := dr1 DL_law_2048
theorem DL_law_2050 : cL_law.data.toList.drop 2050 = TL_law_2050 := dr1 DL_law_2049
theorem DL_law_2051 : cL_law.data.toList.drop 2051 = TL_law_2051 := dr1 DL_law_2050
theorem DL_law_2052 : cL_law.data.toList.drop 2052 = TL_law_2052 := dr1 DL_law_2051
theorem DL_law_2055 : cL_law.data.toList.drop 2055 = TL_law_2055 := dr3 DL_law_2052
theorem DL_law_2057 : cL_law.data.toList.drop 2057 = TL_law_2057 := dr2 DL_law_2055
theorem DL_law_2058 : cL_law.data.toList.drop 2058 = TL_law_2058 := dr1 DL_law_2057
theorem DL_law_2059 : cL_law.data.toList.drop 2059 = TL_law_2059 := dr1 DL_law_2058
theorem DL_law_2061 : cL_law.data.toList.drop 2061 = TL_law_2061 := dr2 DL_law_2059
theorem DL_law_2062 : cL_law.data.toList.drop 2062 = TL_law_2062 := dr1 DL_law_2061
theorem DL_law_2063 : cL_law.data.toList.drop 2063 = TL_law_2063 := dr1 DL_law_2062
theorem DL_law_2064 : cL_law.data.toList.drop 2064 = TL_law_2064 := dr1 DL_law_2063
theorem DL_law_2065 : cL_law.data.toList.drop 2065 = TL_law_2065 := dr1 DL_law_2064
theorem DL_law_2067 : cL_law.data.toList.drop 2067 = TL_law_2067 := dr2 DL_law_2065
theorem DL_law_2068 : cL_law.data.toList.drop 2068 = TL_law_2068 := dr1 DL_law_2067
theorem DL_law_2069 : cL_law.data.toList.drop 2069 = TL_law_2069 := dr1 DL_law_2068
theorem DL_law_2070 : cL_law.data.toList.drop 2070 = TL_law_2070 := dr1 DL_law_2069
theorem DL_law_2073 : cL_law.data.toList.drop 2073 = TL_law_2073 := dr3 DL_law_2070
theorem DL_law_2075 : cL_law.data.toList.drop 2075 = TL_law_2075 := dr2 DL_law_2073
theorem DL_law_2078 : cL_law.data.toList.drop 2078 = TL_law_2078 := dr3 DL_law_2075
theorem DL_law_2079 : cL_law.data.toList.drop 2079 = TL_law_2079 := dr1 DL_law_2078
theorem DL_law_2080 : cL_law.data.toList.drop 2080 = TL_law_2080 := dr1 DL_law_2079
theorem DL_law_2082 : cL_law.data.toList.drop 2082 = TL_law_2082 := dr2 DL_law_2080
theorem DL_law_2083 : cL_law.data.toList.drop 2083 = TL_law_2083 := dr1 DL_law_2082
theorem DL_law_2084 : cL_law.data.toList.drop 2084 = TL_law_2084 := dr1 DL_law_2083
theorem DL_law_2085 : cL_law.data.toList.drop 2085 = TL_law_2085 := dr1 DL_law_2084
theorem DL_law_2086 : cL_law.data.toList.drop 2086 = TL_law_2086 := dr1 DL_law_2085
theorem DL_law_2088 : cL_law.data.toList.drop 2088 = TL_law_2088 := dr2 DL_law_2086
theorem DL_law_2089 : cL_law.data.toList.drop 2089 = TL_law_2089 := dr1 DL_law_2088
theorem DL_law_2090 : cL_law.data.toList.drop 2090 = TL_law_2090 := dr1 DL_law_2089
theorem DL_law_2091 : cL_law.data.toList.drop 2091 = TL_law_2091 := dr1 DL_law_2090
theorem DL_law_2092 : cL_law.data.toList.drop 2092 = TL_law_2092 := dr1 DL_law_2091
theorem DL_law_2095 : cL_law.data.toList.drop 2095 = TL_law_2095 := dr3 DL_law_2092
theorem DL_law_2097 : cL_law.data.toList.drop 2097 = TL_law_2097 := dr2 DL_law_2095
theorem DL_law_2098 : cL_law.data.toList.drop 2098 = TL_law_2098 := dr1 DL_law_2097
theorem DL_law_2099 : cL_law.data.toList.drop 2099 = TL_law_2099 := dr1 DL_law_2098
theorem DL_law_2101 : cL_law.data.toList.drop 2101 = TL_law_2101 := dr2 DL_law_2099
theorem DL_law_2102 : cL_law.data.toList.drop 2102 = TL_law_2102 := dr1 DL_law_2101
theorem DL_law_2103 : cL_law.data.toList.drop 2103 = TL_law_2103 := dr1 DL_law_2102
theorem DL_law_2104 : cL_law.data.toList.drop 2104 = TL_law_2104 := dr1 DL_law_2103
theorem DL_law_2105 : cL_law.data.toList.drop 2105 = TL_law_2105 := dr1 DL_law_2104
theorem DL_law_2107 : cL_law.data.toList.drop 2107 = TL_law_2107 := dr2 DL_law_2105
theorem DL_law_2108 : cL_law.data.toList.drop 2108 = TL_law_2108 := dr1 DL_law_2107
theorem DL_law_2109 : cL_law.data.toList.drop 2109 = TL_law_2109 := dr1 DL_law_2108
theorem DL_law_2110 : cL_law.data.toList.drop 2110 = TL_law_2110 := dr1 DL_law_2109
theorem DL_law_2113 : cL_law.data.toList.drop 2113 = TL_law_2113 := dr3 DL_law_2110
theorem DL_law_2115 : cL_law.data.toList.drop 2115 = TL_law_2115 := dr2 DL_law_2113
theorem DL_law_2118 : cL_law.data.toList.drop 2118 = TL_law_2118 := dr3 DL_law_2115
theorem DL_law_2119 : cL_law.data.toList.drop 2119 = TL_law_2119 := dr1 DL_law_2118
theorem DL_law_2120 : cL_law.data.toList.drop 2120 = TL_law_2120 := dr1 DL_law_2119
theorem DL_law_2122 : cL_law.data.toList.drop 2122 = TL_law_2122 := dr2 DL_law_2120
theorem DL_law_2123 : cL_law.data.toList.drop 2123 = TL_law_2123 := dr1 DL_law_2122
theorem DL_law_2124 : cL_law.data.toList.drop 2124 = TL_law_2124 := dr1 DL_law_2123
theorem DL_law_2125 : cL_law.data.toList.drop 2125 = TL_law_2125 := dr1 DL_law_2124
theorem DL_law_2126 : cL_law.data.toList.drop 2126 = TL_law_2126 := dr1 DL_law_2125
theorem DL_law_2129 : cL_law.data.toList.drop 2129 = TL_law_2129 := dr3 DL_law_2126
theorem DL_law_2131 : cL_law.data.toList.drop 2131 = TL_law_2131 := dr2 DL_law_2129
theorem DL_law_2132 : cL_law.data.toList.drop 2132 = TL_law_2132 := dr1 DL_law_2131
theorem DL_law_2133 : cL_law.data.toList.drop 2133 = TL_law_2133 := dr1 DL_law_2132
theorem DL_law_2135 : cL_law.data.toList.drop 2135 = TL_law_2135 := dr2 DL_law_2133
theorem DL_law_2136 : cL_law.data.toList.drop 2136 = TL_law_2136 := dr1 DL_law_2135
theorem DL_law_2137 : cL_law.data.toList.drop 2137 = TL_law_2137 := dr1 DL_law_2136
theorem DL_law_2138 : cL_law.data.toList.drop 2138 = TL_law_2138 := dr1 DL_law_2137
theorem DL_law_2141 : cL_law.data.toList.drop 2141 = TL_law_2141 := dr3 DL_law_2138
theorem DL_law_2143 : cL_law.data.toList.drop 2143 = TL_law_2143 := dr2 DL_law_2141
theorem DL_law_2146 : cL_law.data.toList.drop 2146 = TL_law_2146 := dr3 DL_law_2143
theorem DL_law_2147 : cL_law.data.toList.drop 2147 = TL_law_2147 := dr1 DL_law_2146
theorem DL_law_2148 : cL_law.data.toList.drop 2148 = TL_law_2148 := dr1 DL_law_2147
theorem DL_law_2150 : cL_law.data.toList.drop 2150 = TL_law_2150 := dr2 DL_law_2148
theorem DL_law_2151 : cL_law.data.toList.drop 2151 = TL_law_2151 := dr1 DL_law_2150
theorem DL_law_2152 : cL_law.data.toList.drop 2152 = TL_law_2152 := dr1 DL_law_2151
theorem DL_law_2153 : cL_law.data.toList.drop 2153 = TL_law_2153 := dr1 DL_law_2152
theorem DL_law_2154 : cL_law.data.toList.drop 2154 = TL_law_2154 := dr1 DL_law_2153
theorem DL_law_2157 : cL_law.data.toList.drop 2157 = TL_law_2157 := dr3 DL_law_2154
theorem DL_law_2159 : cL_law.data.toList.drop 2159 = TL_law_2159 := dr2 DL_law_2157
theorem DL_law_2160 : cL_law.data.toList.drop 2160 = TL_law_2160 := dr1 DL_law_2159
theorem DL_law_2161 : cL_law.data.toList.drop 2161 = TL_law_2161 := dr1 DL_law_2160
theorem DL_law_2163 : cL_law.data.toList.drop 2163 = TL_law_2163 := dr2 DL_law_2161
theorem DL_law_2164 : cL_law.data.toList.drop 2164 = TL_law_2164 := dr1 DL_law_2163
theorem DL_law_2165 : cL_law.data.toList.drop 2165 = TL_law_2165 := dr1 DL_law_2164
theorem DL_law_2166 : cL_law.data.toList.drop 2166 = TL_law_2166 := dr1 DL_law_2165
theorem DL_law_2169 : cL_law.data.toList.drop 2169 = TL_law_2169 := dr3 DL_law_2166
theorem DL_law_2171 : cL_law.data.toList.drop 2171 = TL_law_2171 := dr2 DL_law_2169
theorem DL_law_2174 : cL_law.data.toList.drop 2174 = TL_law_2174 := dr3 DL_law_2171
theorem DL_law_2175 : cL_law.data.toList.drop 2175 = TL_law_2175 := dr1 DL_law_2174
theorem DL_law_2178 : cL_law.data.toList.drop 2178 = TL_law_2178 := dr3 DL_law_2175
theorem DL_law_2179 : cL_law.data.toList.drop 2179 = TL_law_2179 := dr1 DL_law_2178
theorem DL_law_2180 : cL_law.data.toList.drop 2180 = TL_law_2180 := dr1 DL_law_2179
theorem DL_law_2183 : cL_law.data.toList.drop 2183 = TL_law_2183 := dr3 DL_law_2180
theorem DL_law_2184 : cL_law.data.toList.drop 2184 = TL_law_2184 := dr1 DL_law_2183
theorem DL_law_2187 : cL_law.data.toList.drop 2187 = TL_law_2187 := dr3 DL_law_2184
theorem DL_law_2188 : cL_law.data.toList.drop 2188 = TL_law_2188 := dr1 DL_law_2187
theorem DL_law_2191 : cL_law.data.toList.drop 2191 = TL_law_2191 := dr3 DL_law_2188
theorem DL_law_2192 : cL_law.data.toList.drop 2192 = TL_law_2192 := dr1 DL_law_2191
theorem DL_law_2193 : cL_law.data.toList.drop 2193 = TL_law_2193 := dr1 DL_law_2192
theorem DL_law_2196 : cL_law.data.toList.drop 2196 = TL_law_2196 := dr3 DL_law_2193
theorem DL_law_2197 : cL_law.data.toList.drop 2197 = TL_law_2197 := dr1 DL_law_2196
theorem DL_law_2200 : cL_law.data.toList.drop 2200 = TL_law_2200 := dr3 DL_law_2197
theorem DL_law_2201 : cL_law.data.toList.drop 2201 = TL_law_2201 := dr1 DL_law_2200
theorem DL_law_2204 : cL_law.data.toList.drop 2204 = TL_law_2204 := dr3 DL_law_2201
theorem DL_law_2205 : cL_law.data.toList.drop 2205 = TL_law_2205 := dr1 DL_law_2204
theorem DL_law_2206 : cL_law.data.toList.drop 2206 = TL_law_2206 := dr1 DL_law_2205
theorem DL_law_2209 : cL_law.data.toList.drop 2209 = TL_law_2209 := dr3 DL_law_2206
theorem DL_law_2210 : cL_law.data.toList.drop 2210 = TL_law_2210 := dr1 DL_law_2209
theorem DL_law_2213 : cL_law.data.toList.drop 2213 = TL_law_2213 := dr3 DL_law_2210
theorem DL_law_2216 : cL_law.data.toList.drop 2216 = TL_law_2216 := dr3 DL_law_2213
theorem DL_law_2219 : cL_law.data.toList.drop 2219 = TL_law_2219 := dr3 DL_law_2216
theorem DL_law_2220 : cL_law.data.toList.drop 2220 = TL_law_2220 := dr1 DL_law_2219
theorem dL_law_0 : decode cL_law 0 = .ok (.new 8, 3) := do_bb DL_law_0
theorem dL_law_3 : decode cL_law 3 = .ok (.dup, 1) := do_59 DL_law_3
theorem dL_law_4 : decode cL_law 4 = .ok (.invokespecial 169, 3) := do_b7 DL_law_4
theorem dL_law_7 : decode cL_law 7 = .ok (.astore_n 1, 1) := do_4c DL_law_7
theorem dL_law_8 : decode cL_law 8 = .ok (.new 170, 3) := do_bb DL_law_8
theorem dL_law_11 : decode cL_law 11 = .ok (.dup, 1) := do_59 DL_law_11
theorem dL_law_12 : decode cL_law 12 = .ok (.invokespecial 172, 3) := do_b7 DL_law_12
theorem dL_law_15 : decode cL_law 15 = .ok (.astore_n 2, 1) := do_4d DL_law_15
theorem dL_law_16 : decode cL_law 16 = .ok (.new 14, 3) := do_bb DL_law_16
theorem dL_law_19 : decode cL_law 19 = .ok (.dup, 1) := do_59 DL_law_19
theorem dL_law_20 : decode cL_law 20 = .ok (.invokespecial 173, 3) := do_b7 DL_law_20
theorem dL_law_23 : decode cL_law 23 = .ok (.astore_n 3, 1) := do_4e DL_law_23
theorem dL_law_24 : decode cL_law 24 = .ok (.iconst 0, 1) := do_03 DL_law_24
theorem dL_law_25 : decode cL_law 25 = .ok (.istore 4, 2) := do_36 DL_law_25
theorem dL_law_27 : decode cL_law 27 = .ok (.iload 4, 2) := do_15 DL_law_27
theorem dL_law_29 : decode cL_law 29 = .ok (.aload_n 0, 1) := do_2a DL_law_29
theorem dL_law_30 : decode cL_law 30 = .ok (.arraylength, 1) := do_be DL_law_30
theorem dL_law_31 : decode cL_law 31 = .ok (.iconst 5, 1) := do_08 DL_law_31
theorem dL_law_32 : decode cL_law 32 = .ok (.isub, 1) := do_64 DL_law_32
theorem dL_law_33 : decode cL_law 33 = .ok (.if_icmp .gt 2186, 3) := do_a3 DL_law_33 (by decide +kernel)
theorem dL_law_36 : decode cL_law 36 = .ok (.aload_n 0, 1) := do_2a DL_law_36
theorem dL_law_37 : decode cL_law 37 = .ok (.iload 4, 2) := do_15 DL_law_37
theorem dL_law_39 : decode cL_law 39 = .ok (.iaload, 1) := do_2e DL_law_39
theorem dL_law_40 : decode cL_law 40 = .ok (.bipush 63, 2) := do_10 DL_law_40 (by decide +kernel)
theorem dL_law_42 : decode cL_law 42 = .ok (.iand, 1) := do_7e DL_law_42
theorem dL_law_43 : decode cL_law 43 = .ok (.tableswitch 2170 0 47 #[205, 245, 285, 313, 353, 393, 445, 485, 553, 621, 661, 701, 741, 769, 809, 837, 865, 921, 977, 1005, 1069, 1109, 1149, 1201, 1241, 1326, 1366, 1406, 1434, 1490, 1518, 1586, 1614, 1682, 1722, 1791, 1831, 1859, 1887, 1927, 1955, 1995, 2035, 2075, 2103, 2131, 2144, 2157], 205) := by decide +kernel
theorem dL_law_248 : decode cL_law 248 = .ok (.aload_n 1, 1) := do_2b DL_law_248
theorem dL_law_249 : decode cL_law 249 = .ok (.aload_n 0, 1) := do_2a DL_law_249
theorem dL_law_250 : decode cL_law 250 = .ok (.iload 4, 2) := do_15 DL_law_250
theorem dL_law_252 : decode cL_law 252 = .ok (.iconst 1, 1) := do_04 DL_law_252
theorem dL_law_253 : decode cL_law 253 = .ok (.iadd, 1) := do_60 DL_law_253
theorem dL_law_254 : decode cL_law 254 = .ok (.iaload, 1) := do_2e DL_law_254
theorem dL_law_255 : decode cL_law 255 = .ok (.aload_n 0, 1) := do_2a DL_law_255
theorem dL_law_256 : decode cL_law 256 = .ok (.iload 4, 2) := do_15 DL_law_256
theorem dL_law_258 : decode cL_law 258 = .ok (.iconst 2, 1) := do_05 DL_law_258
theorem dL_law_259 : decode cL_law 259 = .ok (.iadd, 1) := do_60 DL_law_259
theorem dL_law_260 : decode cL_law 260 = .ok (.iaload, 1) := do_2e DL_law_260
theorem dL_law_261 : decode cL_law 261 = .ok (.aload_n 3, 1) := do_2d DL_law_261
theorem dL_law_262 : decode cL_law 262 = .ok (.invokestatic 174, 3) := do_b8 DL_law_262
theorem dL_law_265 : decode cL_law 265 = .ok (.istore 5, 2) := do_36 DL_law_265
theorem dL_law_267 : decode cL_law 267 = .ok (.aload_n 2, 1) := do_2c DL_law_267
theorem dL_law_268 : decode cL_law 268 = .ok (.aload_n 0, 1) := do_2a DL_law_268
theorem dL_law_269 : decode cL_law 269 = .ok (.iload 4, 2) := do_15 DL_law_269
theorem dL_law_271 : decode cL_law 271 = .ok (.iconst 1, 1) := do_04 DL_law_271
theorem dL_law_272 : decode cL_law 272 = .ok (.iadd, 1) := do_60 DL_law_272
theorem dL_law_273 : decode cL_law 273 = .ok (.iaload, 1) := do_2e DL_law_273
theorem dL_law_274 : decode cL_law 274 = .ok (.aload_n 0, 1) := do_2a DL_law_274
theorem dL_law_275 : decode cL_law 275 = .ok (.iload 4, 2) := do_15 DL_law_275
theorem dL_law_277 : decode cL_law 277 = .ok (.iconst 2, 1) := do_05 DL_law_277
theorem dL_law_278 : decode cL_law 278 = .ok (.iadd, 1) := do_60 DL_law_278
theorem dL_law_279 : decode cL_law 279 = .ok (.iaload, 1) := do_2e DL_law_279
theorem dL_law_280 : decode cL_law 280 = .ok (.invokevirtual 179, 3) := do_b6 DL_law_280
theorem dL_law_283 : decode cL_law 283 = .ok (.istore 6, 2) := do_36 DL_law_283
theorem dL_law_285 : decode cL_law 285 = .ok (.goto 1928, 3) := do_a7 DL_law_285 (by decide +kernel)
theorem dL_law_288 : decode cL_law 288 = .ok (.aload_n 1, 1) := do_2b DL_law_288
theorem dL_law_289 : decode cL_law 289 = .ok (.aload_n 0, 1) := do_2a DL_law_289
theorem dL_law_290 : decode cL_law 290 = .ok (.iload 4, 2) := do_15 DL_law_290
theorem dL_law_292 : decode cL_law 292 = .ok (.iconst 1, 1) := do_04 DL_law_292
theorem dL_law_293 : decode cL_law 293 = .ok (.iadd, 1) := do_60 DL_law_293
theorem dL_law_294 : decode cL_law 294 = .ok (.iaload, 1) := do_2e DL_law_294
theorem dL_law_295 : decode cL_law 295 = .ok (.aload_n 0, 1) := do_2a DL_law_295
theorem dL_law_296 : decode cL_law 296 = .ok (.iload 4, 2) := do_15 DL_law_296
theorem dL_law_298 : decode cL_law 298 = .ok (.iconst 2, 1) := do_05 DL_law_298
theorem dL_law_299 : decode cL_law 299 = .ok (.iadd, 1) := do_60 DL_law_299
theorem dL_law_300 : decode cL_law 300 = .ok (.iaload, 1) := do_2e DL_law_300
theorem dL_law_301 : decode cL_law 301 = .ok (.aload_n 3, 1) := do_2d DL_law_301
theorem dL_law_302 : decode cL_law 302 = .ok (.invokestatic 180, 3) := do_b8 DL_law_302
theorem dL_law_305 : decode cL_law 305 = .ok (.istore 5, 2) := do_36 DL_law_305
theorem dL_law_307 : decode cL_law 307 = .ok (.aload_n 2, 1) := do_2c DL_law_307
theorem dL_law_308 : decode cL_law 308 = .ok (.aload_n 0, 1) := do_2a DL_law_308
theorem dL_law_309 : decode cL_law 309 = .ok (.iload 4, 2) := do_15 DL_law_309
theorem dL_law_311 : decode cL_law 311 = .ok (.iconst 1, 1) := do_04 DL_law_311
theorem dL_law_312 : decode cL_law 312 = .ok (.iadd, 1) := do_60 DL_law_312
theorem dL_law_313 : decode cL_law 313 = .ok (.iaload, 1) := do_2e DL_law_313
theorem dL_law_314 : decode cL_law 314 = .ok (.aload_n 0, 1) := do_2a DL_law_314
theorem dL_law_315 : decode cL_law 315 = .ok (.iload 4, 2) := do_15 DL_law_315
theorem dL_law_317 : decode cL_law 317 = .ok (.iconst 2, 1) := do_05 DL_law_317
theorem dL_law_318 : decode cL_law 318 = .ok (.iadd, 1) := do_60 DL_law_318
theorem dL_law_319 : decode cL_law 319 = .ok (.iaload, 1) := do_2e DL_law_319
theorem dL_law_320 : decode cL_law 320 = .ok (.invokevirtual 182, 3) := do_b6 DL_law_320
theorem dL_law_323 : decode cL_law 323 = .ok (.istore 6, 2) := do_36 DL_law_323
theorem dL_law_325 : decode cL_law 325 = .ok (.goto 1888, 3) := do_a7 DL_law_325 (by decide +kernel)
theorem dL_law_328 : decode cL_law 328 = .ok (.aload_n 1, 1) := do_2b DL_law_328
theorem dL_law_329 : decode cL_law 329 = .ok (.aload_n 0, 1) := do_2a DL_law_329
theorem dL_law_330 : decode cL_law 330 = .ok (.iload 4, 2) := do_15 DL_law_330
theorem dL_law_332 : decode cL_law 332 = .ok (.iconst 1, 1) := do_04 DL_law_332
theorem dL_law_333 : decode cL_law 333 = .ok (.iadd, 1) := do_60 DL_law_333
theorem dL_law_334 : decode cL_law 334 = .ok (.iaload, 1) := do_2e DL_law_334
theorem dL_law_335 : decode cL_law 335 = .ok (.aload_n 3, 1) := do_2d DL_law_335
theorem dL_law_336 : decode cL_law 336 = .ok (.invokestatic 183, 3) := do_b8 DL_law_336
theorem dL_law_339 : decode cL_law 339 = .ok (.istore 5, 2) := do_36 DL_law_339
theorem dL_law_341 : decode cL_law 341 = .ok (.aload_n 2, 1) := do_2c DL_law_341
theorem dL_law_342 : decode cL_law 342 = .ok (.aload_n 0, 1) := do_2a DL_law_342
theorem dL_law_343 : decode cL_law 343 = .ok (.iload 4, 2) := do_15 DL_law_343
theorem dL_law_345 : decode cL_law 345 = .ok (.iconst 1, 1) := do_04 DL_law_345
theorem dL_law_346 : decode cL_law 346 = .ok (.iadd, 1) := do_60 DL_law_346
theorem dL_law_347 : decode cL_law 347 = .ok (.iaload, 1) := do_2e DL_law_347
theorem dL_law_348 : decode cL_law 348 = .ok (.invokevirtual 186, 3) := do_b6 DL_law_348
theorem dL_law_351 : decode cL_law 351 = .ok (.istore 6, 2) := do_36 DL_law_351
theorem dL_law_353 : decode cL_law 353 = .ok (.goto 1860, 3) := do_a7 DL_law_353 (by decide +kernel)
theorem dL_law_356 : decode cL_law 356 = .ok (.aload_n 1, 1) := do_2b DL_law_356
theorem dL_law_357 : decode cL_law 357 = .ok (.aload_n 0, 1) := do_2a DL_law_357
theorem dL_law_358 : decode cL_law 358 = .ok (.iload 4, 2) := do_15 DL_law_358
theorem dL_law_360 : decode cL_law 360 = .ok (.iconst 1, 1) := do_04 DL_law_360
theorem dL_law_361 : decode cL_law 361 = .ok (.iadd, 1) := do_60 DL_law_361
theorem dL_law_362 : decode cL_law 362 = .ok (.iaload, 1) := do_2e DL_law_362
theorem dL_law_363 : decode cL_law 363 = .ok (.aload_n 0, 1) := do_2a DL_law_363
theorem dL_law_364 : decode cL_law 364 = .ok (.iload 4, 2) := do_15 DL_law_364
theorem dL_law_366 : decode cL_law 366 = .ok (.iconst 2, 1) := do_05 DL_law_366
theorem dL_law_367 : decode cL_law 367 = .ok (.iadd, 1) := do_60 DL_law_367
theorem dL_law_368 : decode cL_law 368 = .ok (.iaload, 1) := do_2e DL_law_368
theorem dL_law_369 : decode cL_law 369 = .ok (.aload_n 3, 1) := do_2d DL_law_369
theorem dL_law_370 : decode cL_law 370 = .ok (.invokestatic 187, 3) := do_b8 DL_law_370
theorem dL_law_373 : decode cL_law 373 = .ok (.istore 5, 2) := do_36 DL_law_373
theorem dL_law_375 : decode cL_law 375 = .ok (.aload_n 2, 1) := do_2c DL_law_375
theorem dL_law_376 : decode cL_law 376 = .ok (.aload_n 0, 1) := do_2a DL_law_376
theorem dL_law_377 : decode cL_law 377 = .ok (.iload 4, 2) := do_15 DL_law_377
theorem dL_law_379 : decode cL_law 379 = .ok (.iconst 1, 1) := do_04 DL_law_379
theorem dL_law_380 : decode cL_law 380 = .ok (.iadd, 1) := do_60 DL_law_380
theorem dL_law_381 : decode cL_law 381 = .ok (.iaload, 1) := do_2e DL_law_381
theorem dL_law_382 : decode cL_law 382 = .ok (.aload_n 0, 1) := do_2a DL_law_382
theorem dL_law_383 : decode cL_law 383 = .ok (.iload 4, 2) := do_15 DL_law_383
theorem dL_law_385 : decode cL_law 385 = .ok (.iconst 2, 1) := do_05 DL_law_385
theorem dL_law_386 : decode cL_law 386 = .ok (.iadd, 1) := do_60 DL_law_386
theorem dL_law_387 : decode cL_law 387 = .ok (.iaload, 1) := do_2e DL_law_387
theorem dL_law_388 : decode cL_law 388 = .ok (.invokevirtual 189, 3) := do_b6 DL_law_388
theorem dL_law_391 : decode cL_law 391 = .ok (.istore 6, 2) := do_36 DL_law_391
theorem dL_law_393 : decode cL_law 393 = .ok (.goto 1820, 3) := do_a7 DL_law_393 (by decide +kernel)
theorem dL_law_396 : decode cL_law 396 = .ok (.aload_n 1, 1) := do_2b DL_law_396
theorem dL_law_397 : decode cL_law 397 = .ok (.aload_n 0, 1) := do_2a DL_law_397
theorem dL_law_398 : decode cL_law 398 = .ok (.iload 4, 2) := do_15 DL_law_398
theorem dL_law_400 : decode cL_law 400 = .ok (.iconst 1, 1) := do_04 DL_law_400
theorem dL_law_401 : decode cL_law 401 = .ok (.iadd, 1) := do_60 DL_law_401
theorem dL_law_402 : decode cL_law 402 = .ok (.iaload, 1) := do_2e DL_law_402
theorem dL_law_403 : decode cL_law 403 = .ok (.aload_n 0, 1) := do_2a DL_law_403
theorem dL_law_404 : decode cL_law 404 = .ok (.iload 4, 2) := do_15 DL_law_404
theorem dL_law_406 : decode cL_law 406 = .ok (.iconst 2, 1) := do_05 DL_law_406
theorem dL_law_407 : decode cL_law 407 = .ok (.iadd, 1) := do_60 DL_law_407
theorem dL_law_408 : decode cL_law 408 = .ok (.iaload, 1) := do_2e DL_law_408
theorem dL_law_409 : decode cL_law 409 = .ok (.aload_n 3, 1) := do_2d DL_law_409
theorem dL_law_410 : decode cL_law 410 = .ok (.invokestatic 190, 3) := do_b8 DL_law_410
theorem dL_law_413 : decode cL_law 413 = .ok (.istore 5, 2) := do_36 DL_law_413
theorem dL_law_415 : decode cL_law 415 = .ok (.aload_n 2, 1) := do_2c DL_law_415
theorem dL_law_416 : decode cL_law 416 = .ok (.aload_n 0, 1) := do_2a DL_law_416
theorem dL_law_417 : decode cL_law 417 = .ok (.iload 4, 2) := do_15 DL_law_417
theorem dL_law_419 : decode cL_law 419 = .ok (.iconst 1, 1) := do_04 DL_law_419
theorem dL_law_420 : decode cL_law 420 = .ok (.iadd, 1) := do_60 DL_law_420
theorem dL_law_421 : decode cL_law 421 = .ok (.iaload, 1) := do_2e DL_law_421
theorem dL_law_422 : decode cL_law 422 = .ok (.aload_n 0, 1) := do_2a DL_law_422
theorem dL_law_423 : decode cL_law 423 = .ok (.iload 4, 2) := do_15 DL_law_423
theorem dL_law_425 : decode cL_law 425 = .ok (.iconst 2, 1) := do_05 DL_law_425
theorem dL_law_426 : decode cL_law 426 = .ok (.iadd, 1) := do_60 DL_law_426
theorem dL_law_427 : decode cL_law 427 = .ok (.iaload, 1) := do_2e DL_law_427
theorem dL_law_428 : decode cL_law 428 = .ok (.invokevirtual 192, 3) := do_b6 DL_law_428
theorem dL_law_431 : decode cL_law 431 = .ok (.istore 6, 2) := do_36 DL_law_431
theorem dL_law_433 : decode cL_law 433 = .ok (.goto 1780, 3) := do_a7 DL_law_433 (by decide +kernel)
theorem dL_law_436 : decode cL_law 436 = .ok (.aload_n 1, 1) := do_2b DL_law_436
theorem dL_law_437 : decode cL_law 437 = .ok (.aload_n 0, 1) := do_2a DL_law_437
theorem dL_law_438 : decode cL_law 438 = .ok (.iload 4, 2) := do_15 DL_law_438
theorem dL_law_440 : decode cL_law 440 = .ok (.iconst 1, 1) := do_04 DL_law_440
theorem dL_law_441 : decode cL_law 441 = .ok (.iadd, 1) := do_60 DL_law_441
theorem dL_law_442 : decode cL_law 442 = .ok (.iaload, 1) := do_2e DL_law_442
theorem dL_law_443 : decode cL_law 443 = .ok (.aload_n 0, 1) := do_2a DL_law_443
theorem dL_law_444 : decode cL_law 444 = .ok (.iload 4, 2) := do_15 DL_law_444
theorem dL_law_446 : decode cL_law 446 = .ok (.iconst 2, 1) := do_05 DL_law_446
theorem dL_law_447 : decode cL_law 447 = .ok (.iadd, 1) := do_60 DL_law_447
theorem dL_law_448 : decode cL_law 448 = .ok (.iaload, 1) := do_2e DL_law_448
theorem dL_law_449 : decode cL_law 449 = .ok (.aload_n 0, 1) := do_2a DL_law_449
theorem dL_law_450 : decode cL_law 450 = .ok (.iload 4, 2) := do_15 DL_law_450
theorem dL_law_452 : decode cL_law 452 = .ok (.iconst 3, 1) := do_06 DL_law_452
theorem dL_law_453 : decode cL_law 453 = .ok (.iadd, 1) := do_60 DL_law_453
theorem dL_law_454 : decode cL_law 454 = .ok (.iaload, 1) := do_2e DL_law_454
theorem dL_law_455 : decode cL_law 455 = .ok (.aload_n 3, 1) := do_2d DL_law_455
theorem dL_law_456 : decode cL_law 456 = .ok (.invokestatic 193, 3) := do_b8 DL_law_456
theorem dL_law_459 : decode cL_law 459 = .ok (.istore 5, 2) := do_36 DL_law_459
theorem dL_law_461 : decode cL_law 461 = .ok (.aload_n 2, 1) := do_2c DL_law_461
theorem dL_law_462 : decode cL_law 462 = .ok (.aload_n 0, 1) := do_2a DL_law_462
theorem dL_law_463 : decode cL_law 463 = .ok (.iload 4, 2) := do_15 DL_law_463
theorem dL_law_465 : decode cL_law 465 = .ok (.iconst 1, 1) := do_04 DL_law_465
theorem dL_law_466 : decode cL_law 466 = .ok (.iadd, 1) := do_60 DL_law_466
theorem dL_law_467 : decode cL_law 467 = .ok (.iaload, 1) := do_2e DL_law_467
theorem dL_law_468 : decode cL_law 468 = .ok (.aload_n 0, 1) := do_2a DL_law_468
theorem dL_law_469 : decode cL_law 469 = .ok (.iload 4, 2) := do_15 DL_law_469
theorem dL_law_471 : decode cL_law 471 = .ok (.iconst 2, 1) := do_05 DL_law_471
theorem dL_law_472 : decode cL_law 472 = .ok (.iadd, 1) := do_60 DL_law_472
theorem dL_law_473 : decode cL_law 473 = .ok (.iaload, 1) := do_2e DL_law_473
theorem dL_law_474 : decode cL_law 474 = .ok (.aload_n 0, 1) := do_2a DL_law_474
theorem dL_law_475 : decode cL_law 475 = .ok (.iload 4, 2) := do_15 DL_law_475
theorem dL_law_477 : decode cL_law 477 = .ok (.iconst 3, 1) := do_06 DL_law_477
theorem dL_law_478 : decode cL_law 478 = .ok (.iadd, 1) := do_60 DL_law_478
theorem dL_law_479 : decode cL_law 479 = .ok (.iaload, 1) := do_2e DL_law_479
theorem dL_law_480 : decode cL_law 480 = .ok (.invokevirtual 196, 3) := do_b6 DL_law_480
theorem dL_law_483 : decode cL_law 483 = .ok (.astore 6, 2) := do_3a DL_law_483
theorem dL_law_485 : decode cL_law 485 = .ok (.goto 1728, 3) := do_a7 DL_law_485 (by decide +kernel)
theorem dL_law_488 : decode cL_law 488 = .ok (.aload_n 1, 1) := do_2b DL_law_488
theorem dL_law_489 : decode cL_law 489 = .ok (.aload_n 0, 1) := do_2a DL_law_489
theorem dL_law_490 : decode cL_law 490 = .ok (.iload 4, 2) := do_15 DL_law_490
theorem dL_law_492 : decode cL_law 492 = .ok (.iconst 1, 1) := do_04 DL_law_492
theorem dL_law_493 : decode cL_law 493 = .ok (.iadd, 1) := do_60 DL_law_493
theorem dL_law_494 : decode cL_law 494 = .ok (.iaload, 1) := do_2e DL_law_494
theorem dL_law_495 : decode cL_law 495 = .ok (.aload_n 0, 1) := do_2a DL_law_495
theorem dL_law_496 : decode cL_law 496 = .ok (.iload 4, 2) := do_15 DL_law_496
theorem dL_law_498 : decode cL_law 498 = .ok (.iconst 2, 1) := do_05 DL_law_498
theorem dL_law_499 : decode cL_law 499 = .ok (.iadd, 1) := do_60 DL_law_499
theorem dL_law_500 : decode cL_law 500 = .ok (.iaload, 1) := do_2e DL_law_500
theorem dL_law_501 : decode cL_law 501 = .ok (.aload_n 3, 1) := do_2d DL_law_501
theorem dL_law_502 : decode cL_law 502 = .ok (.invokestatic 197, 3) := do_b8 DL_law_502
theorem dL_law_505 : decode cL_law 505 = .ok (.istore 5, 2) := do_36 DL_law_505
theorem dL_law_507 : decode cL_law 507 = .ok (.aload_n 2, 1) := do_2c DL_law_507
theorem dL_law_508 : decode cL_law 508 = .ok (.aload_n 0, 1) := do_2a DL_law_508
theorem dL_law_509 : decode cL_law 509 = .ok (.iload 4, 2) := do_15 DL_law_509
theorem dL_law_511 : decode cL_law 511 = .ok (.iconst 1, 1) := do_04 DL_law_511
theorem dL_law_512 : decode cL_law 512 = .ok (.iadd, 1) := do_60 DL_law_512
theorem dL_law_513 : decode cL_law 513 = .ok (.iaload, 1) := do_2e DL_law_513
theorem dL_law_514 : decode cL_law 514 = .ok (.aload_n 0, 1) := do_2a DL_law_514
theorem dL_law_515 : decode cL_law 515 = .ok (.iload 4, 2) := do_15 DL_law_515
theorem dL_law_517 : decode cL_law 517 = .ok (.iconst 2, 1) := do_05 DL_law_517
theorem dL_law_518 : decode cL_law 518 = .ok (.iadd, 1) := do_60 DL_law_518
theorem dL_law_519 : decode cL_law 519 = .ok (.iaload, 1) := do_2e DL_law_519
theorem dL_law_520 : decode cL_law 520 = .ok (.invokevirtual 199, 3) := do_b6 DL_law_520
theorem dL_law_523 : decode cL_law 523 = .ok (.istore 6, 2) := do_36 DL_law_523
theorem dL_law_525 : decode cL_law 525 = .ok (.goto 1688, 3) := do_a7 DL_law_525 (by decide +kernel)
theorem dL_law_528 : decode cL_law 528 = .ok (.aload_n 1, 1) := do_2b DL_law_528
theorem dL_law_529 : decode cL_law 529 = .ok (.aload_n 0, 1) := do_2a DL_law_529
theorem dL_law_530 : decode cL_law 530 = .ok (.iload 4, 2) := do_15 DL_law_530
theorem dL_law_532 : decode cL_law 532 = .ok (.iconst 1, 1) := do_04 DL_law_532
theorem dL_law_533 : decode cL_law 533 = .ok (.iadd, 1) := do_60 DL_law_533
theorem dL_law_534 : decode cL_law 534 = .ok (.iaload, 1) := do_2e DL_law_534
theorem dL_law_535 : decode cL_law 535 = .ok (.aload_n 0, 1) := do_2a DL_law_535
theorem dL_law_536 : decode cL_law 536 = .ok (.iload 4, 2) := do_15 DL_law_536
theorem dL_law_538 : decode cL_law 538 = .ok (.iconst 2, 1) := do_05 DL_law_538
theorem dL_law_539 : decode cL_law 539 = .ok (.iadd, 1) := do_60 DL_law_539
theorem dL_law_540 : decode cL_law 540 = .ok (.iaload, 1) := do_2e DL_law_540
theorem dL_law_541 : decode cL_law 541 = .ok (.ifCond .eq 7, 3) := do_99 DL_law_541 (by decide +kernel)
theorem dL_law_544 : decode cL_law 544 = .ok (.iconst 1, 1) := do_04 DL_law_544
theorem dL_law_545 : decode cL_law 545 = .ok (.goto 4, 3) := do_a7 DL_law_545 (by decide +kernel)
theorem dL_law_548 : decode cL_law 548 = .ok (.iconst 0, 1) := do_03 DL_law_548
theorem dL_law_549 : decode cL_law 549 = .ok (.aload_n 0, 1) := do_2a DL_law_549
theorem dL_law_550 : decode cL_law 550 = .ok (.iload 4, 2) := do_15 DL_law_550
theorem dL_law_552 : decode cL_law 552 = .ok (.iconst 3, 1) := do_06 DL_law_552
theorem dL_law_553 : decode cL_law 553 = .ok (.iadd, 1) := do_60 DL_law_553
theorem dL_law_554 : decode cL_law 554 = .ok (.iaload, 1) := do_2e DL_law_554
theorem dL_law_555 : decode cL_law 555 = .ok (.aload_n 3, 1) := do_2d DL_law_555
theorem dL_law_556 : decode cL_law 556 = .ok (.invokestatic 200, 3) := do_b8 DL_law_556
theorem dL_law_559 : decode cL_law 559 = .ok (.istore 5, 2) := do_36 DL_law_559
theorem dL_law_561 : decode cL_law 561 = .ok (.aload_n 2, 1) := do_2c DL_law_561
theorem dL_law_562 : decode cL_law 562 = .ok (.aload_n 0, 1) := do_2a DL_law_562
theorem dL_law_563 : decode cL_law 563 = .ok (.iload 4, 2) := do_15 DL_law_563
theorem dL_law_565 : decode cL_law 565 = .ok (.iconst 1, 1) := do_04 DL_law_565
theorem dL_law_566 : decode cL_law 566 = .ok (.iadd, 1) := do_60 DL_law_566
theorem dL_law_567 : decode cL_law 567 = .ok (.iaload, 1) := do_2e DL_law_567
theorem dL_law_568 : decode cL_law 568 = .ok (.aload_n 0, 1) := do_2a DL_law_568
theorem dL_law_569 : decode cL_law 569 = .ok (.iload 4, 2) := do_15 DL_law_569
theorem dL_law_571 : decode cL_law 571 = .ok (.iconst 2, 1) := do_05 DL_law_571
theorem dL_law_572 : decode cL_law 572 = .ok (.iadd, 1) := do_60 DL_law_572
theorem dL_law_573 : decode cL_law 573 = .ok (.iaload, 1) := do_2e DL_law_573
theorem dL_law_574 : decode cL_law 574 = .ok (.ifCond .eq 7, 3) := do_99 DL_law_574 (by decide +kernel)
theorem dL_law_577 : decode cL_law 577 = .ok (.iconst 1, 1) := do_04 DL_law_577
theorem dL_law_578 : decode cL_law 578 = .ok (.goto 4, 3) := do_a7 DL_law_578 (by decide +kernel)
theorem dL_law_581 : decode cL_law 581 = .ok (.iconst 0, 1) := do_03 DL_law_581
theorem dL_law_582 : decode cL_law 582 = .ok (.aload_n 0, 1) := do_2a DL_law_582
theorem dL_law_583 : decode cL_law 583 = .ok (.iload 4, 2) := do_15 DL_law_583
theorem dL_law_585 : decode cL_law 585 = .ok (.iconst 3, 1) := do_06 DL_law_585
theorem dL_law_586 : decode cL_law 586 = .ok (.iadd, 1) := do_60 DL_law_586
theorem dL_law_587 : decode cL_law 587 = .ok (.iaload, 1) := do_2e DL_law_587
theorem dL_law_588 : decode cL_law 588 = .ok (.invokevirtual 203, 3) := do_b6 DL_law_588
theorem dL_law_591 : decode cL_law 591 = .ok (.istore 6, 2) := do_36 DL_law_591
theorem dL_law_593 : decode cL_law 593 = .ok (.goto 1620, 3) := do_a7 DL_law_593 (by decide +kernel)
theorem dL_law_596 : decode cL_law 596 = .ok (.aload_n 1, 1) := do_2b DL_law_596
theorem dL_law_597 : decode cL_law 597 = .ok (.aload_n 0, 1) := do_2a DL_law_597
theorem dL_law_598 : decode cL_law 598 = .ok (.iload 4, 2) := do_15 DL_law_598
theorem dL_law_600 : decode cL_law 600 = .ok (.iconst 1, 1) := do_04 DL_law_600
theorem dL_law_601 : decode cL_law 601 = .ok (.iadd, 1) := do_60 DL_law_601
theorem dL_law_602 : decode cL_law 602 = .ok (.iaload, 1) := do_2e DL_law_602
theorem dL_law_603 : decode cL_law 603 = .ok (.aload_n 0, 1) := do_2a DL_law_603
theorem dL_law_604 : decode cL_law 604 = .ok (.iload 4, 2) := do_15 DL_law_604
theorem dL_law_606 : decode cL_law 606 = .ok (.iconst 2, 1) := do_05 DL_law_606
theorem dL_law_607 : decode cL_law 607 = .ok (.iadd, 1) := do_60 DL_law_607
theorem dL_law_608 : decode cL_law 608 = .ok (.iaload, 1) := do_2e DL_law_608
theorem dL_law_609 : decode cL_law 609 = .ok (.ifCond .eq 7, 3) := do_99 DL_law_609 (by decide +kernel)
theorem dL_law_612 : decode cL_law 612 = .ok (.iconst 1, 1) := do_04 DL_law_612
theorem dL_law_613 : decode cL_law 613 = .ok (.goto 4, 3) := do_a7 DL_law_613 (by decide +kernel)
theorem dL_law_616 : decode cL_law 616 = .ok (.iconst 0, 1) := do_03 DL_law_616
theorem dL_law_617 : decode cL_law 617 = .ok (.aload_n 0, 1) := do_2a DL_law_617
theorem dL_law_618 : decode cL_law 618 = .ok (.iload 4, 2) := do_15 DL_law_618
theorem dL_law_620 : decode cL_law 620 = .ok (.iconst 3, 1) := do_06 DL_law_620
theorem dL_law_621 : decode cL_law 621 = .ok (.iadd, 1) := do_60 DL_law_621
theorem dL_law_622 : decode cL_law 622 = .ok (.iaload, 1) := do_2e DL_law_622
theorem dL_law_623 : decode cL_law 623 = .ok (.aload_n 3, 1) := do_2d DL_law_623
theorem dL_law_624 : decode cL_law 624 = .ok (.invokestatic 204, 3) := do_b8 DL_law_624
theorem dL_law_627 : decode cL_law 627 = .ok (.istore 5, 2) := do_36 DL_law_627
theorem dL_law_629 : decode cL_law 629 = .ok (.aload_n 2, 1) := do_2c DL_law_629
theorem dL_law_630 : decode cL_law 630 = .ok (.aload_n 0, 1) := do_2a DL_law_630
theorem dL_law_631 : decode cL_law 631 = .ok (.iload 4, 2) := do_15 DL_law_631
theorem dL_law_633 : decode cL_law 633 = .ok (.iconst 1, 1) := do_04 DL_law_633
theorem dL_law_634 : decode cL_law 634 = .ok (.iadd, 1) := do_60 DL_law_634
theorem dL_law_635 : decode cL_law 635 = .ok (.iaload, 1) := do_2e DL_law_635
theorem dL_law_636 : decode cL_law 636 = .ok (.aload_n 0, 1) := do_2a DL_law_636
theorem dL_law_637 : decode cL_law 637 = .ok (.iload 4, 2) := do_15 DL_law_637
theorem dL_law_639 : decode cL_law 639 = .ok (.iconst 2, 1) := do_05 DL_law_639
theorem dL_law_640 : decode cL_law 640 = .ok (.iadd, 1) := do_60 DL_law_640
theorem dL_law_641 : decode cL_law 641 = .ok (.iaload, 1) := do_2e DL_law_641
theorem dL_law_642 : decode cL_law 642 = .ok (.ifCond .eq 7, 3) := do_99 DL_law_642 (by decide +kernel)
theorem dL_law_645 : decode cL_law 645 = .ok (.iconst 1, 1) := do_04 DL_law_645
theorem dL_law_646 : decode cL_law 646 = .ok (.goto 4, 3) := do_a7 DL_law_646 (by decide +kernel)
theorem dL_law_649 : decode cL_law 649 = .ok (.iconst 0, 1) := do_03 DL_law_649
theorem dL_law_650 : decode cL_law 650 = .ok (.aload_n 0, 1) := do_2a DL_law_650
theorem dL_law_651 : decode cL_law 651 = .ok (.iload 4, 2) := do_15 DL_law_651
theorem dL_law_653 : decode cL_law 653 = .ok (.iconst 3, 1) := do_06 DL_law_653
theorem dL_law_654 : decode cL_law 654 = .ok (.iadd, 1) := do_60 DL_law_654
theorem dL_law_655 : decode cL_law 655 = .ok (.iaload, 1) := do_2e DL_law_655
theorem dL_law_656 : decode cL_law 656 = .ok (.invokevirtual 206, 3) := do_b6 DL_law_656
theorem dL_law_659 : decode cL_law 659 = .ok (.istore 6, 2) := do_36 DL_law_659
theorem dL_law_661 : decode cL_law 661 = .ok (.goto 1552, 3) := do_a7 DL_law_661 (by decide +kernel)
theorem dL_law_664 : decode cL_law 664 = .ok (.aload_n 1, 1) := do_2b DL_law_664
theorem dL_law_665 : decode cL_law 665 = .ok (.aload_n 0, 1) := do_2a DL_law_665
theorem dL_law_666 : decode cL_law 666 = .ok (.iload 4, 2) := do_15 DL_law_666
theorem dL_law_668 : decode cL_law 668 = .ok (.iconst 1, 1) := do_04 DL_law_668
theorem dL_law_669 : decode cL_law 669 = .ok (.iadd, 1) := do_60 DL_law_669
theorem dL_law_670 : decode cL_law 670 = .ok (.iaload, 1) := do_2e DL_law_670
theorem dL_law_671 : decode cL_law 671 = .ok (.aload_n 0, 1) := do_2a DL_law_671
theorem dL_law_672 : decode cL_law 672 = .ok (.iload 4, 2) := do_15 DL_law_672
theorem dL_law_674 : decode cL_law 674 = .ok (.iconst 2, 1) := do_05 DL_law_674
theorem dL_law_675 : decode cL_law 675 = .ok (.iadd, 1) := do_60 DL_law_675
theorem dL_law_676 : decode cL_law 676 = .ok (.iaload, 1) := do_2e DL_law_676
theorem dL_law_677 : decode cL_law 677 = .ok (.aload_n 3, 1) := do_2d DL_law_677
theorem dL_law_678 : decode cL_law 678 = .ok (.invokestatic 207, 3) := do_b8 DL_law_678
theorem dL_law_681 : decode cL_law 681 = .ok (.istore 5, 2) := do_36 DL_law_681
theorem dL_law_683 : decode cL_law 683 = .ok (.aload_n 2, 1) := do_2c DL_law_683
theorem dL_law_684 : decode cL_law 684 = .ok (.aload_n 0, 1) := do_2a DL_law_684
theorem dL_law_685 : decode cL_law 685 = .ok (.iload 4, 2) := do_15 DL_law_685
theorem dL_law_687 : decode cL_law 687 = .ok (.iconst 1, 1) := do_04 DL_law_687
theorem dL_law_688 : decode cL_law 688 = .ok (.iadd, 1) := do_60 DL_law_688
theorem dL_law_689 : decode cL_law 689 = .ok (.iaload, 1) := do_2e DL_law_689
theorem dL_law_690 : decode cL_law 690 = .ok (.aload_n 0, 1) := do_2a DL_law_690
theorem dL_law_691 : decode cL_law 691 = .ok (.iload 4, 2) := do_15 DL_law_691
theorem dL_law_693 : decode cL_law 693 = .ok (.iconst 2, 1) := do_05 DL_law_693
theorem dL_law_694 : decode cL_law 694 = .ok (.iadd, 1) := do_60 DL_law_694
theorem dL_law_695 : decode cL_law 695 = .ok (.iaload, 1) := do_2e DL_law_695
theorem dL_law_696 : decode cL_law 696 = .ok (.invokevirtual 209, 3) := do_b6 DL_law_696
theorem dL_law_699 : decode cL_law 699 = .ok (.istore 6, 2) := do_36 DL_law_699
theorem dL_law_701 : decode cL_law 701 = .ok (.goto 1512, 3) := do_a7 DL_law_701 (by decide +kernel)
theorem dL_law_704 : decode cL_law 704 = .ok (.aload_n 1, 1) := do_2b DL_law_704
theorem dL_law_705 : decode cL_law 705 = .ok (.aload_n 0, 1) := do_2a DL_law_705
theorem dL_law_706 : decode cL_law 706 = .ok (.iload 4, 2) := do_15 DL_law_706
theorem dL_law_708 : decode cL_law 708 = .ok (.iconst 1, 1) := do_04 DL_law_708
theorem dL_law_709 : decode cL_law 709 = .ok (.iadd, 1) := do_60 DL_law_709
theorem dL_law_710 : decode cL_law 710 = .ok (.iaload, 1) := do_2e DL_law_710
theorem dL_law_711 : decode cL_law 711 = .ok (.aload_n 0, 1) := do_2a DL_law_711
theorem dL_law_712 : decode cL_law 712 = .ok (.iload 4, 2) := do_15 DL_law_712
theorem dL_law_714 : decode cL_law 714 = .ok (.iconst 2, 1) := do_05 DL_law_714
theorem dL_law_715 : decode cL_law 715 = .ok (.iadd, 1) := do_60 DL_law_715
theorem dL_law_716 : decode cL_law 716 = .ok (.iaload, 1) := do_2e DL_law_716
theorem dL_law_717 : decode cL_law 717 = .ok (.aload_n 3, 1) := do_2d DL_law_717
theorem dL_law_718 : decode cL_law 718 = .ok (.invokestatic 210, 3) := do_b8 DL_law_718
theorem dL_law_721 : decode cL_law 721 = .ok (.istore 5, 2) := do_36 DL_law_721
theorem dL_law_723 : decode cL_law 723 = .ok (.aload_n 2, 1) := do_2c DL_law_723
theorem dL_law_724 : decode cL_law 724 = .ok (.aload_n 0, 1) := do_2a DL_law_724
theorem dL_law_725 : decode cL_law 725 = .ok (.iload 4, 2) := do_15 DL_law_725
theorem dL_law_727 : decode cL_law 727 = .ok (.iconst 1, 1) := do_04 DL_law_727
theorem dL_law_728 : decode cL_law 728 = .ok (.iadd, 1) := do_60 DL_law_728
theorem dL_law_729 : decode cL_law 729 = .ok (.iaload, 1) := do_2e DL_law_729
theorem dL_law_730 : decode cL_law 730 = .ok (.aload_n 0, 1) := do_2a DL_law_730
theorem dL_law_731 : decode cL_law 731 = .ok (.iload 4, 2) := do_15 DL_law_731
theorem dL_law_733 : decode cL_law 733 = .ok (.iconst 2, 1) := do_05 DL_law_733
theorem dL_law_734 : decode cL_law 734 = .ok (.iadd, 1) := do_60 DL_law_734
theorem dL_law_735 : decode cL_law 735 = .ok (.iaload, 1) := do_2e DL_law_735
theorem dL_law_736 : decode cL_law 736 = .ok (.invokevirtual 212, 3) := do_b6 DL_law_736
theorem dL_law_739 : decode cL_law 739 = .ok (.istore 6, 2) := do_36 DL_law_739
theorem dL_law_741 : decode cL_law 741 = .ok (.goto 1472, 3) := do_a7 DL_law_741 (by decide +kernel)
theorem dL_law_744 : decode cL_law 744 = .ok (.aload_n 1, 1) := do_2b DL_law_744
theorem dL_law_745 : decode cL_law 745 = .ok (.aload_n 0, 1) := do_2a DL_law_745
theorem dL_law_746 : decode cL_law 746 = .ok (.iload 4, 2) := do_15 DL_law_746
theorem dL_law_748 : decode cL_law 748 = .ok (.iconst 1, 1) := do_04 DL_law_748
theorem dL_law_749 : decode cL_law 749 = .ok (.iadd, 1) := do_60 DL_law_749
theorem dL_law_750 : decode cL_law 750 = .ok (.iaload, 1) := do_2e DL_law_750
theorem dL_law_751 : decode cL_law 751 = .ok (.aload_n 0, 1) := do_2a DL_law_751
theorem dL_law_752 : decode cL_law 752 = .ok (.iload 4, 2) := do_15 DL_law_752
theorem dL_law_754 : decode cL_law 754 = .ok (.iconst 2, 1) := do_05 DL_law_754
theorem dL_law_755 : decode cL_law 755 = .ok (.iadd, 1) := do_60 DL_law_755
theorem dL_law_756 : decode cL_law 756 = .ok (.iaload, 1) := do_2e DL_law_756
theorem dL_law_757 : decode cL_law 757 = .ok (.aload_n 3, 1) := do_2d DL_law_757
theorem dL_law_758 : decode cL_law 758 = .ok (.invokestatic 213, 3) := do_b8 DL_law_758
theorem dL_law_761 : decode cL_law 761 = .ok (.istore 5, 2) := do_36 DL_law_761
theorem dL_law_763 : decode cL_law 763 = .ok (.aload_n 2, 1) := do_2c DL_law_763
theorem dL_law_764 : decode cL_law 764 = .ok (.aload_n 0, 1) := do_2a DL_law_764
theorem dL_law_765 : decode cL_law 765 = .ok (.iload 4, 2) := do_15 DL_law_765
theorem dL_law_767 : decode cL_law 767 = .ok (.iconst 1, 1) := do_04 DL_law_767
theorem dL_law_768 : decode cL_law 768 = .ok (.iadd, 1) := do_60 DL_law_768
theorem dL_law_769 : decode cL_law 769 = .ok (.iaload, 1) := do_2e DL_law_769
theorem dL_law_770 : decode cL_law 770 = .ok (.aload_n 0, 1) := do_2a DL_law_770
theorem dL_law_771 : decode cL_law 771 = .ok (.iload 4, 2) := do_15 DL_law_771
theorem dL_law_773 : decode cL_law 773 = .ok (.iconst 2, 1) := do_05 DL_law_773
theorem dL_law_774 : decode cL_law 774 = .ok (.iadd, 1) := do_60 DL_law_774
theorem dL_law_775 : decode cL_law 775 = .ok (.iaload, 1) := do_2e DL_law_775
theorem dL_law_776 : decode cL_law 776 = .ok (.invokevirtual 215, 3) := do_b6 DL_law_776
theorem dL_law_779 : decode cL_law 779 = .ok (.astore 6, 2) := do_3a DL_law_779
theorem dL_law_781 : decode cL_law 781 = .ok (.goto 1432, 3) := do_a7 DL_law_781 (by decide +kernel)
theorem dL_law_784 : decode cL_law 784 = .ok (.aload_n 1, 1) := do_2b DL_law_784
theorem dL_law_785 : decode cL_law 785 = .ok (.aload_n 0, 1) := do_2a DL_law_785
theorem dL_law_786 : decode cL_law 786 = .ok (.iload 4, 2) := do_15 DL_law_786
theorem dL_law_788 : decode cL_law 788 = .ok (.iconst 1, 1) := do_04 DL_law_788
theorem dL_law_789 : decode cL_law 789 = .ok (.iadd, 1) := do_60 DL_law_789
theorem dL_law_790 : decode cL_law 790 = .ok (.iaload, 1) := do_2e DL_law_790
theorem dL_law_791 : decode cL_law 791 = .ok (.aload_n 3, 1) := do_2d DL_law_791
theorem dL_law_792 : decode cL_law 792 = .ok (.invokestatic 216, 3) := do_b8 DL_law_792
theorem dL_law_795 : decode cL_law 795 = .ok (.istore 5, 2) := do_36 DL_law_795
theorem dL_law_797 : decode cL_law 797 = .ok (.aload_n 2, 1) := do_2c DL_law_797
theorem dL_law_798 : decode cL_law 798 = .ok (.aload_n 0, 1) := do_2a DL_law_798
theorem dL_law_799 : decode cL_law 799 = .ok (.iload 4, 2) := do_15 DL_law_799
theorem dL_law_801 : decode cL_law 801 = .ok (.iconst 1, 1) := do_04 DL_law_801
theorem dL_law_802 : decode cL_law 802 = .ok (.iadd, 1) := do_60 DL_law_802
theorem dL_law_803 : decode cL_law 803 = .ok (.iaload, 1) := do_2e DL_law_803
theorem dL_law_804 : decode cL_law 804 = .ok (.invokevirtual 218, 3) := do_b6 DL_law_804
theorem dL_law_807 : decode cL_law 807 = .ok (.istore 6, 2) := do_36 DL_law_807
theorem dL_law_809 : decode cL_law 809 = .ok (.goto 1404, 3) := do_a7 DL_law_809 (by decide +kernel)
theorem dL_law_812 : decode cL_law 812 = .ok (.aload_n 1, 1) := do_2b DL_law_812
theorem dL_law_813 : decode cL_law 813 = .ok (.aload_n 0, 1) := do_2a DL_law_813
theorem dL_law_814 : decode cL_law 814 = .ok (.iload 4, 2) := do_15 DL_law_814
theorem dL_law_816 : decode cL_law 816 = .ok (.iconst 1, 1) := do_04 DL_law_816
theorem dL_law_817 : decode cL_law 817 = .ok (.iadd, 1) := do_60 DL_law_817
theorem dL_law_818 : decode cL_law 818 = .ok (.iaload, 1) := do_2e DL_law_818
theorem dL_law_819 : decode cL_law 819 = .ok (.aload_n 0, 1) := do_2a DL_law_819
theorem dL_law_820 : decode cL_law 820 = .ok (.iload 4, 2) := do_15 DL_law_820
theorem dL_law_822 : decode cL_law 822 = .ok (.iconst 2, 1) := do_05 DL_law_822
theorem dL_law_823 : decode cL_law 823 = .ok (.iadd, 1) := do_60 DL_law_823
theorem dL_law_824 : decode cL_law 824 = .ok (.iaload, 1) := do_2e DL_law_824
theorem dL_law_825 : decode cL_law 825 = .ok (.aload_n 3, 1) := do_2d DL_law_825
theorem dL_law_826 : decode cL_law 826 = .ok (.invokestatic 219, 3) := do_b8 DL_law_826
theorem dL_law_829 : decode cL_law 829 = .ok (.istore 5, 2) := do_36 DL_law_829
theorem dL_law_831 : decode cL_law 831 = .ok (.aload_n 2, 1) := do_2c DL_law_831
theorem dL_law_832 : decode cL_law 832 = .ok (.aload_n 0, 1) := do_2a DL_law_832
theorem dL_law_833 : decode cL_law 833 = .ok (.iload 4, 2) := do_15 DL_law_833
theorem dL_law_835 : decode cL_law 835 = .ok (.iconst 1, 1) := do_04 DL_law_835
theorem dL_law_836 : decode cL_law 836 = .ok (.iadd, 1) := do_60 DL_law_836
theorem dL_law_837 : decode cL_law 837 = .ok (.iaload, 1) := do_2e DL_law_837
theorem dL_law_838 : decode cL_law 838 = .ok (.aload_n 0, 1) := do_2a DL_law_838
theorem dL_law_839 : decode cL_law 839 = .ok (.iload 4, 2) := do_15 DL_law_839
theorem dL_law_841 : decode cL_law 841 = .ok (.iconst 2, 1) := do_05 DL_law_841
theorem dL_law_842 : decode cL_law 842 = .ok (.iadd, 1) := do_60 DL_law_842
theorem dL_law_843 : decode cL_law 843 = .ok (.iaload, 1) := do_2e DL_law_843
theorem dL_law_844 : decode cL_law 844 = .ok (.invokevirtual 221, 3) := do_b6 DL_law_844
theorem dL_law_847 : decode cL_law 847 = .ok (.astore 6, 2) := do_3a DL_law_847
theorem dL_law_849 : decode cL_law 849 = .ok (.goto 1364, 3) := do_a7 DL_law_849 (by decide +kernel)
theorem dL_law_852 : decode cL_law 852 = .ok (.aload_n 1, 1) := do_2b DL_law_852
theorem dL_law_853 : decode cL_law 853 = .ok (.aload_n 0, 1) := do_2a DL_law_853
theorem dL_law_854 : decode cL_law 854 = .ok (.iload 4, 2) := do_15 DL_law_854
theorem dL_law_856 : decode cL_law 856 = .ok (.iconst 1, 1) := do_04 DL_law_856
theorem dL_law_857 : decode cL_law 857 = .ok (.iadd, 1) := do_60 DL_law_857
theorem dL_law_858 : decode cL_law 858 = .ok (.iaload, 1) := do_2e DL_law_858
theorem dL_law_859 : decode cL_law 859 = .ok (.aload_n 3, 1) := do_2d DL_law_859
theorem dL_law_860 : decode cL_law 860 = .ok (.invokestatic 222, 3) := do_b8 DL_law_860
theorem dL_law_863 : decode cL_law 863 = .ok (.istore 5, 2) := do_36 DL_law_863
theorem dL_law_865 : decode cL_law 865 = .ok (.aload_n 2, 1) := do_2c DL_law_865
theorem dL_law_866 : decode cL_law 866 = .ok (.aload_n 0, 1) := do_2a DL_law_866
theorem dL_law_867 : decode cL_law 867 = .ok (.iload 4, 2) := do_15 DL_law_867
theorem dL_law_869 : decode cL_law 869 = .ok (.iconst 1, 1) := do_04 DL_law_869
theorem dL_law_870 : decode cL_law 870 = .ok (.iadd, 1) := do_60 DL_law_870
theorem dL_law_871 : decode cL_law 871 = .ok (.iaload, 1) := do_2e DL_law_871
theorem dL_law_872 : decode cL_law 872 = .ok (.invokevirtual 224, 3) := do_b6 DL_law_872
theorem dL_law_875 : decode cL_law 875 = .ok (.istore 6, 2) := do_36 DL_law_875
theorem dL_law_877 : decode cL_law 877 = .ok (.goto 1336, 3) := do_a7 DL_law_877 (by decide +kernel)
theorem dL_law_880 : decode cL_law 880 = .ok (.aload_n 1, 1) := do_2b DL_law_880
theorem dL_law_881 : decode cL_law 881 = .ok (.aload_n 0, 1) := do_2a DL_law_881
theorem dL_law_882 : decode cL_law 882 = .ok (.iload 4, 2) := do_15 DL_law_882
theorem dL_law_884 : decode cL_law 884 = .ok (.iconst 1, 1) := do_04 DL_law_884
theorem dL_law_885 : decode cL_law 885 = .ok (.iadd, 1) := do_60 DL_law_885
theorem dL_law_886 : decode cL_law 886 = .ok (.iaload, 1) := do_2e DL_law_886
theorem dL_law_887 : decode cL_law 887 = .ok (.aload_n 3, 1) := do_2d DL_law_887
theorem dL_law_888 : decode cL_law 888 = .ok (.invokestatic 225, 3) := do_b8 DL_law_888
theorem dL_law_891 : decode cL_law 891 = .ok (.istore 5, 2) := do_36 DL_law_891
theorem dL_law_893 : decode cL_law 893 = .ok (.aload_n 2, 1) := do_2c DL_law_893
theorem dL_law_894 : decode cL_law 894 = .ok (.aload_n 0, 1) := do_2a DL_law_894
theorem dL_law_895 : decode cL_law 895 = .ok (.iload 4, 2) := do_15 DL_law_895
theorem dL_law_897 : decode cL_law 897 = .ok (.iconst 1, 1) := do_04 DL_law_897
theorem dL_law_898 : decode cL_law 898 = .ok (.iadd, 1) := do_60 DL_law_898
theorem dL_law_899 : decode cL_law 899 = .ok (.iaload, 1) := do_2e DL_law_899
theorem dL_law_900 : decode cL_law 900 = .ok (.invokevirtual 227, 3) := do_b6 DL_law_900
theorem dL_law_903 : decode cL_law 903 = .ok (.astore 6, 2) := do_3a DL_law_903
theorem dL_law_905 : decode cL_law 905 = .ok (.goto 1308, 3) := do_a7 DL_law_905 (by decide +kernel)
theorem dL_law_908 : decode cL_law 908 = .ok (.aload_n 1, 1) := do_2b DL_law_908
theorem dL_law_909 : decode cL_law 909 = .ok (.aload_n 0, 1) := do_2a DL_law_909
theorem dL_law_910 : decode cL_law 910 = .ok (.iload 4, 2) := do_15 DL_law_910
theorem dL_law_912 : decode cL_law 912 = .ok (.iconst 1, 1) := do_04 DL_law_912
theorem dL_law_913 : decode cL_law 913 = .ok (.iadd, 1) := do_60 DL_law_913
theorem dL_law_914 : decode cL_law 914 = .ok (.iaload, 1) := do_2e DL_law_914
theorem dL_law_915 : decode cL_law 915 = .ok (.aload_n 0, 1) := do_2a DL_law_915
theorem dL_law_916 : decode cL_law 916 = .ok (.iload 4, 2) := do_15 DL_law_916
theorem dL_law_918 : decode cL_law 918 = .ok (.iconst 2, 1) := do_05 DL_law_918
theorem dL_law_919 : decode cL_law 919 = .ok (.iadd, 1) := do_60 DL_law_919
theorem dL_law_920 : decode cL_law 920 = .ok (.iaload, 1) := do_2e DL_law_920
theorem dL_law_921 : decode cL_law 921 = .ok (.ifCond .eq 7, 3) := do_99 DL_law_921 (by decide +kernel)
theorem dL_law_924 : decode cL_law 924 = .ok (.iconst 1, 1) := do_04 DL_law_924
theorem dL_law_925 : decode cL_law 925 = .ok (.goto 4, 3) := do_a7 DL_law_925 (by decide +kernel)
theorem dL_law_928 : decode cL_law 928 = .ok (.iconst 0, 1) := do_03 DL_law_928
theorem dL_law_929 : decode cL_law 929 = .ok (.aload_n 3, 1) := do_2d DL_law_929
theorem dL_law_930 : decode cL_law 930 = .ok (.invokestatic 228, 3) := do_b8 DL_law_930
theorem dL_law_933 : decode cL_law 933 = .ok (.istore 5, 2) := do_36 DL_law_933
theorem dL_law_935 : decode cL_law 935 = .ok (.aload_n 2, 1) := do_2c DL_law_935
theorem dL_law_936 : decode cL_law 936 = .ok (.aload_n 0, 1) := do_2a DL_law_936
theorem dL_law_937 : decode cL_law 937 = .ok (.iload 4, 2) := do_15 DL_law_937
theorem dL_law_939 : decode cL_law 939 = .ok (.iconst 1, 1) := do_04 DL_law_939
theorem dL_law_940 : decode cL_law 940 = .ok (.iadd, 1) := do_60 DL_law_940
theorem dL_law_941 : decode cL_law 941 = .ok (.iaload, 1) := do_2e DL_law_941
theorem dL_law_942 : decode cL_law 942 = .ok (.aload_n 0, 1) := do_2a DL_law_942
theorem dL_law_943 : decode cL_law 943 = .ok (.iload 4, 2) := do_15 DL_law_943
theorem dL_law_945 : decode cL_law 945 = .ok (.iconst 2, 1) := do_05 DL_law_945
theorem dL_law_946 : decode cL_law 946 = .ok (.iadd, 1) := do_60 DL_law_946
theorem dL_law_947 : decode cL_law 947 = .ok (.iaload, 1) := do_2e DL_law_947
theorem dL_law_948 : decode cL_law 948 = .ok (.ifCond .eq 7, 3) := do_99 DL_law_948 (by decide +kernel)
theorem dL_law_951 : decode cL_law 951 = .ok (.iconst 1, 1) := do_04 DL_law_951
theorem dL_law_952 : decode cL_law 952 = .ok (.goto 4, 3) := do_a7 DL_law_952 (by decide +kernel)
theorem dL_law_955 : decode cL_law 955 = .ok (.iconst 0, 1) := do_03 DL_law_955
theorem dL_law_956 : decode cL_law 956 = .ok (.invokevirtual 231, 3) := do_b6 DL_law_956
theorem dL_law_959 : decode cL_law 959 = .ok (.astore 6, 2) := do_3a DL_law_959
theorem dL_law_961 : decode cL_law 961 = .ok (.goto 1252, 3) := do_a7 DL_law_961 (by decide +kernel)
theorem dL_law_964 : decode cL_law 964 = .ok (.aload_n 1, 1) := do_2b DL_law_964
theorem dL_law_965 : decode cL_law 965 = .ok (.aload_n 0, 1) := do_2a DL_law_965
theorem dL_law_966 : decode cL_law 966 = .ok (.iload 4, 2) := do_15 DL_law_966
theorem dL_law_968 : decode cL_law 968 = .ok (.iconst 1, 1) := do_04 DL_law_968
theorem dL_law_969 : decode cL_law 969 = .ok (.iadd, 1) := do_60 DL_law_969
theorem dL_law_970 : decode cL_law 970 = .ok (.iaload, 1) := do_2e DL_law_970
theorem dL_law_971 : decode cL_law 971 = .ok (.aload_n 0, 1) := do_2a DL_law_971
theorem dL_law_972 : decode cL_law 972 = .ok (.iload 4, 2) := do_15 DL_law_972
theorem dL_law_974 : decode cL_law 974 = .ok (.iconst 2, 1) := do_05 DL_law_974
theorem dL_law_975 : decode cL_law 975 = .ok (.iadd, 1) := do_60 DL_law_975
theorem dL_law_976 : decode cL_law 976 = .ok (.iaload, 1) := do_2e DL_law_976
theorem dL_law_977 : decode cL_law 977 = .ok (.ifCond .eq 7, 3) := do_99 DL_law_977 (by decide +kernel)
theorem dL_law_980 : decode cL_law 980 = .ok (.iconst 1, 1) := do_04 DL_law_980
theorem dL_law_981 : decode cL_law 981 = .ok (.goto 4, 3) := do_a7 DL_law_981 (by decide +kernel)
theorem dL_law_984 : decode cL_law 984 = .ok (.iconst 0, 1) := do_03 DL_law_984
theorem dL_law_985 : decode cL_law 985 = .ok (.aload_n 3, 1) := do_2d DL_law_985
theorem dL_law_986 : decode cL_law 986 = .ok (.invokestatic 232, 3) := do_b8 DL_law_986
theorem dL_law_989 : decode cL_law 989 = .ok (.istore 5, 2) := do_36 DL_law_989
theorem dL_law_991 : decode cL_law 991 = .ok (.aload_n 2, 1) := do_2c DL_law_991
theorem dL_law_992 : decode cL_law 992 = .ok (.aload_n 0, 1) := do_2a DL_law_992
theorem dL_law_993 : decode cL_law 993 = .ok (.iload 4, 2) := do_15 DL_law_993
theorem dL_law_995 : decode cL_law 995 = .ok (.iconst 1, 1) := do_04 DL_law_995
theorem dL_law_996 : decode cL_law 996 = .ok (.iadd, 1) := do_60 DL_law_996
theorem dL_law_997 : decode cL_law 997 = .ok (.iaload, 1) := do_2e DL_law_997
theorem dL_law_998 : decode cL_law 998 = .ok (.aload_n 0, 1) := do_2a DL_law_998
theorem dL_law_999 : decode cL_law 999 = .ok (.iload 4, 2) := do_15 DL_law_999
theorem dL_law_1001 : decode cL_law 1001 = .ok (.iconst 2, 1) := do_05 DL_law_1001
theorem dL_law_1002 : decode cL_law 1002 = .ok (.iadd, 1) := do_60 DL_law_1002
theorem dL_law_1003 : decode cL_law 1003 = .ok (.iaload, 1) := do_2e DL_law_1003
theorem dL_law_1004 : decode cL_law 1004 = .ok (.ifCond .eq 7, 3) := do_99 DL_law_1004 (by decide +kernel)
theorem dL_law_1007 : decode cL_law 1007 = .ok (.iconst 1, 1) := do_04 DL_law_1007
theorem dL_law_1008 : decode cL_law 1008 = .ok (.goto 4, 3) := do_a7 DL_law_1008 (by decide +kernel)
theorem dL_law_1011 : decode cL_law 1011 = .ok (.iconst 0, 1) := do_03 DL_law_1011
theorem dL_law_1012 : decode cL_law 1012 = .ok (.invokevirtual 234, 3) := do_b6 DL_law_1012
theorem dL_law_1015 : decode cL_law 1015 = .ok (.astore 6, 2) := do_3a DL_law_1015
theorem dL_law_1017 : decode cL_law 1017 = .ok (.goto 1196, 3) := do_a7 DL_law_1017 (by decide +kernel)
theorem dL_law_1020 : decode cL_law 1020 = .ok (.aload_n 1, 1) := do_2b DL_law_1020
theorem dL_law_1021 : decode cL_law 1021 = .ok (.aload_n 0, 1) := do_2a DL_law_1021
theorem dL_law_1022 : decode cL_law 1022 = .ok (.iload 4, 2) := do_15 DL_law_1022
theorem dL_law_1024 : decode cL_law 1024 = .ok (.iconst 1, 1) := do_04 DL_law_1024
theorem dL_law_1025 : decode cL_law 1025 = .ok (.iadd, 1) := do_60 DL_law_1025
theorem dL_law_1026 : decode cL_law 1026 = .ok (.iaload, 1) := do_2e DL_law_1026
theorem dL_law_1027 : decode cL_law 1027 = .ok (.aload_n 3, 1) := do_2d DL_law_1027
theorem dL_law_1028 : decode cL_law 1028 = .ok (.invokestatic 235, 3) := do_b8 DL_law_1028
theorem dL_law_1031 : decode cL_law 1031 = .ok (.istore 5, 2) := do_36 DL_law_1031
theorem dL_law_1033 : decode cL_law 1033 = .ok (.aload_n 2, 1) := do_2c DL_law_1033
theorem dL_law_1034 : decode cL_law 1034 = .ok (.aload_n 0, 1) := do_2a DL_law_1034
theorem dL_law_1035 : decode cL_law 1035 = .ok (.iload 4, 2) := do_15 DL_law_1035
theorem dL_law_1037 : decode cL_law 1037 = .ok (.iconst 1, 1) := do_04 DL_law_1037
theorem dL_law_1038 : decode cL_law 1038 = .ok (.iadd, 1) := do_60 DL_law_1038
theorem dL_law_1039 : decode cL_law 1039 = .ok (.iaload, 1) := do_2e DL_law_1039
theorem dL_law_1040 : decode cL_law 1040 = .ok (.invokevirtual 237, 3) := do_b6 DL_law_1040
theorem dL_law_1043 : decode cL_law 1043 = .ok (.astore 6, 2) := do_3a DL_law_1043
theorem dL_law_1045 : decode cL_law 1045 = .ok (.goto 1168, 3) := do_a7 DL_law_1045 (by decide +kernel)
theorem dL_law_1048 : decode cL_law 1048 = .ok (.aload_n 1, 1) := do_2b DL_law_1048
theorem dL_law_1049 : decode cL_law 1049 = .ok (.aload_n 0, 1) := do_2a DL_law_1049
theorem dL_law_1050 : decode cL_law 1050 = .ok (.iload 4, 2) := do_15 DL_law_1050
theorem dL_law_1052 : decode cL_law 1052 = .ok (.iconst 1, 1) := do_04 DL_law_1052
theorem dL_law_1053 : decode cL_law 1053 = .ok (.iadd, 1) := do_60 DL_law_1053
theorem dL_law_1054 : decode cL_law 1054 = .ok (.iaload, 1) := do_2e DL_law_1054
theorem dL_law_1055 : decode cL_law 1055 = .ok (.aload_n 0, 1) := do_2a DL_law_1055
theorem dL_law_1056 : decode cL_law 1056 = .ok (.iload 4, 2) := do_15 DL_law_1056
theorem dL_law_1058 : decode cL_law 1058 = .ok (.iconst 2, 1) := do_05 DL_law_1058
theorem dL_law_1059 : decode cL_law 1059 = .ok (.iadd, 1) := do_60 DL_law_1059
theorem dL_law_1060 : decode cL_law 1060 = .ok (.iaload, 1) := do_2e DL_law_1060
theorem dL_law_1061 : decode cL_law 1061 = .ok (.aload_n 0, 1) := do_2a DL_law_1061
theorem dL_law_1062 : decode cL_law 1062 = .ok (.iload 4, 2) := do_15 DL_law_1062
theorem dL_law_1064 : decode cL_law 1064 = .ok (.iconst 3, 1) := do_06 DL_law_1064
theorem dL_law_1065 : decode cL_law 1065 = .ok (.iadd, 1) := do_60 DL_law_1065
theorem dL_law_1066 : decode cL_law 1066 = .ok (.iaload, 1) := do_2e DL_law_1066
theorem dL_law_1067 : decode cL_law 1067 = .ok (.aload_n 0, 1) := do_2a DL_law_1067
theorem dL_law_1068 : decode cL_law 1068 = .ok (.iload 4, 2) := do_15 DL_law_1068
theorem dL_law_1070 : decode cL_law 1070 = .ok (.iconst 4, 1) := do_07 DL_law_1070
theorem dL_law_1071 : decode cL_law 1071 = .ok (.iadd, 1) := do_60 DL_law_1071
theorem dL_law_1072 : decode cL_law 1072 = .ok (.iaload, 1) := do_2e DL_law_1072
theorem dL_law_1073 : decode cL_law 1073 = .ok (.aload_n 3, 1) := do_2d DL_law_1073
theorem dL_law_1074 : decode cL_law 1074 = .ok (.invokestatic 238, 3) := do_b8 DL_law_1074
theorem dL_law_1077 : decode cL_law 1077 = .ok (.istore 5, 2) := do_36 DL_law_1077
theorem dL_law_1079 : decode cL_law 1079 = .ok (.aload_n 2, 1) := do_2c DL_law_1079
theorem dL_law_1080 : decode cL_law 1080 = .ok (.aload_n 0, 1) := do_2a DL_law_1080
theorem dL_law_1081 : decode cL_law 1081 = .ok (.iload 4, 2) := do_15 DL_law_1081
theorem dL_law_1083 : decode cL_law 1083 = .ok (.iconst 1, 1) := do_04 DL_law_1083
theorem dL_law_1084 : decode cL_law 1084 = .ok (.iadd, 1) := do_60 DL_law_1084
theorem dL_law_1085 : decode cL_law 1085 = .ok (.iaload, 1) := do_2e DL_law_1085
theorem dL_law_1086 : decode cL_law 1086 = .ok (.aload_n 0, 1) := do_2a DL_law_1086
theorem dL_law_1087 : decode cL_law 1087 = .ok (.iload 4, 2) := do_15 DL_law_1087
theorem dL_law_1089 : decode cL_law 1089 = .ok (.iconst 2, 1) := do_05 DL_law_1089
theorem dL_law_1090 : decode cL_law 1090 = .ok (.iadd, 1) := do_60 DL_law_1090
theorem dL_law_1091 : decode cL_law 1091 = .ok (.iaload, 1) := do_2e DL_law_1091
theorem dL_law_1092 : decode cL_law 1092 = .ok (.aload_n 0, 1) := do_2a DL_law_1092
theorem dL_law_1093 : decode cL_law 1093 = .ok (.iload 4, 2) := do_15 DL_law_1093
theorem dL_law_1095 : decode cL_law 1095 = .ok (.iconst 3, 1) := do_06 DL_law_1095
theorem dL_law_1096 : decode cL_law 1096 = .ok (.iadd, 1) := do_60 DL_law_1096
theorem dL_law_1097 : decode cL_law 1097 = .ok (.iaload, 1) := do_2e DL_law_1097
theorem dL_law_1098 : decode cL_law 1098 = .ok (.aload_n 0, 1) := do_2a DL_law_1098
theorem dL_law_1099 : decode cL_law 1099 = .ok (.iload 4, 2) := do_15 DL_law_1099
theorem dL_law_1101 : decode cL_law 1101 = .ok (.iconst 4, 1) := do_07 DL_law_1101
theorem dL_law_1102 : decode cL_law 1102 = .ok (.iadd, 1) := do_60 DL_law_1102
theorem dL_law_1103 : decode cL_law 1103 = .ok (.iaload, 1) := do_2e DL_law_1103
theorem dL_law_1104 : decode cL_law 1104 = .ok (.invokevirtual 241, 3) := do_b6 DL_law_1104
theorem dL_law_1107 : decode cL_law 1107 = .ok (.istore 6, 2) := do_36 DL_law_1107
theorem dL_law_1109 : decode cL_law 1109 = .ok (.goto 1104, 3) := do_a7 DL_law_1109 (by decide +kernel)
theorem dL_law_1112 : decode cL_law 1112 = .ok (.aload_n 1, 1) := do_2b DL_law_1112
theorem dL_law_1113 : decode cL_law 1113 = .ok (.aload_n 0, 1) := do_2a DL_law_1113
theorem dL_law_1114 : decode cL_law 1114 = .ok (.iload 4, 2) := do_15 DL_law_1114
theorem dL_law_1116 : decode cL_law 1116 = .ok (.iconst 1, 1) := do_04 DL_law_1116
theorem dL_law_1117 : decode cL_law 1117 = .ok (.iadd, 1) := do_60 DL_law_1117
theorem dL_law_1118 : decode cL_law 1118 = .ok (.iaload, 1) := do_2e DL_law_1118
theorem dL_law_1119 : decode cL_law 1119 = .ok (.aload_n 0, 1) := do_2a DL_law_1119
theorem dL_law_1120 : decode cL_law 1120 = .ok (.iload 4, 2) := do_15 DL_law_1120
theorem dL_law_1122 : decode cL_law 1122 = .ok (.iconst 2, 1) := do_05 DL_law_1122
theorem dL_law_1123 : decode cL_law 1123 = .ok (.iadd, 1) := do_60 DL_law_1123
theorem dL_law_1124 : decode cL_law 1124 = .ok (.iaload, 1) := do_2e DL_law_1124
theorem dL_law_1125 : decode cL_law 1125 = .ok (.aload_n 3, 1) := do_2d DL_law_1125
theorem dL_law_1126 : decode cL_law 1126 = .ok (.invokestatic 242, 3) := do_b8 DL_law_1126
theorem dL_law_1129 : decode cL_law 1129 = .ok (.istore 5, 2) := do_36 DL_law_1129
theorem dL_law_1131 : decode cL_law 1131 = .ok (.aload_n 2, 1) := do_2c DL_law_1131
theorem dL_law_1132 : decode cL_law 1132 = .ok (.aload_n 0, 1) := do_2a DL_law_1132
theorem dL_law_1133 : decode cL_law 1133 = .ok (.iload 4, 2) := do_15 DL_law_1133
theorem dL_law_1135 : decode cL_law 1135 = .ok (.iconst 1, 1) := do_04 DL_law_1135
theorem dL_law_1136 : decode cL_law 1136 = .ok (.iadd, 1) := do_60 DL_law_1136
theorem dL_law_1137 : decode cL_law 1137 = .ok (.iaload, 1) := do_2e DL_law_1137
theorem dL_law_1138 : decode cL_law 1138 = .ok (.aload_n 0, 1) := do_2a DL_law_1138
theorem dL_law_1139 : decode cL_law 1139 = .ok (.iload 4, 2) := do_15 DL_law_1139
theorem dL_law_1141 : decode cL_law 1141 = .ok (.iconst 2, 1) := do_05 DL_law_1141
theorem dL_law_1142 : decode cL_law 1142 = .ok (.iadd, 1) := do_60 DL_law_1142
theorem dL_law_1143 : decode cL_law 1143 = .ok (.iaload, 1) := do_2e DL_law_1143
theorem dL_law_1144 : decode cL_law 1144 = .ok (.invokevirtual 244, 3) := do_b6 DL_law_1144
theorem dL_law_1147 : decode cL_law 1147 = .ok (.istore 6, 2) := do_36 DL_law_1147
theorem dL_law_1149 : decode cL_law 1149 = .ok (.goto 1064, 3) := do_a7 DL_law_1149 (by decide +kernel)
theorem dL_law_1152 : decode cL_law 1152 = .ok (.aload_n 1, 1) := do_2b DL_law_1152
theorem dL_law_1153 : decode cL_law 1153 = .ok (.aload_n 0, 1) := do_2a DL_law_1153
theorem dL_law_1154 : decode cL_law 1154 = .ok (.iload 4, 2) := do_15 DL_law_1154
theorem dL_law_1156 : decode cL_law 1156 = .ok (.iconst 1, 1) := do_04 DL_law_1156
theorem dL_law_1157 : decode cL_law 1157 = .ok (.iadd, 1) := do_60 DL_law_1157
theorem dL_law_1158 : decode cL_law 1158 = .ok (.iaload, 1) := do_2e DL_law_1158
theorem dL_law_1159 : decode cL_law 1159 = .ok (.aload_n 0, 1) := do_2a DL_law_1159
theorem dL_law_1160 : decode cL_law 1160 = .ok (.iload 4, 2) := do_15 DL_law_1160
theorem dL_law_1162 : decode cL_law 1162 = .ok (.iconst 2, 1) := do_05 DL_law_1162
theorem dL_law_1163 : decode cL_law 1163 = .ok (.iadd, 1) := do_60 DL_law_1163
theorem dL_law_1164 : decode cL_law 1164 = .ok (.iaload, 1) := do_2e DL_law_1164
theorem dL_law_1165 : decode cL_law 1165 = .ok (.aload_n 3, 1) := do_2d DL_law_1165
theorem dL_law_1166 : decode cL_law 1166 = .ok (.invokestatic 245, 3) := do_b8 DL_law_1166
theorem dL_law_1169 : decode cL_law 1169 = .ok (.istore 5, 2) := do_36 DL_law_1169
theorem dL_law_1171 : decode cL_law 1171 = .ok (.aload_n 2, 1) := do_2c DL_law_1171
theorem dL_law_1172 : decode cL_law 1172 = .ok (.aload_n 0, 1) := do_2a DL_law_1172
theorem dL_law_1173 : decode cL_law 1173 = .ok (.iload 4, 2) := do_15 DL_law_1173
theorem dL_law_1175 : decode cL_law 1175 = .ok (.iconst 1, 1) := do_04 DL_law_1175
theorem dL_law_1176 : decode cL_law 1176 = .ok (.iadd, 1) := do_60 DL_law_1176
theorem dL_law_1177 : decode cL_law 1177 = .ok (.iaload, 1) := do_2e DL_law_1177
theorem dL_law_1178 : decode cL_law 1178 = .ok (.aload_n 0, 1) := do_2a DL_law_1178
theorem dL_law_1179 : decode cL_law 1179 = .ok (.iload 4, 2) := do_15 DL_law_1179
theorem dL_law_1181 : decode cL_law 1181 = .ok (.iconst 2, 1) := do_05 DL_law_1181
theorem dL_law_1182 : decode cL_law 1182 = .ok (.iadd, 1) := do_60 DL_law_1182
theorem dL_law_1183 : decode cL_law 1183 = .ok (.iaload, 1) := do_2e DL_law_1183
theorem dL_law_1184 : decode cL_law 1184 = .ok (.invokevirtual 247, 3) := do_b6 DL_law_1184
theorem dL_law_1187 : decode cL_law 1187 = .ok (.istore 6, 2) := do_36 DL_law_1187
theorem dL_law_1189 : decode cL_law 1189 = .ok (.goto 1024, 3) := do_a7 DL_law_1189 (by decide +kernel)
theorem dL_law_1192 : decode cL_law 1192 = .ok (.aload_n 1, 1) := do_2b DL_law_1192
theorem dL_law_1193 : decode cL_law 1193 = .ok (.aload_n 0, 1) := do_2a DL_law_1193
theorem dL_law_1194 : decode cL_law 1194 = .ok (.iload 4, 2) := do_15 DL_law_1194
theorem dL_law_1196 : decode cL_law 1196 = .ok (.iconst 1, 1) := do_04 DL_law_1196
theorem dL_law_1197 : decode cL_law 1197 = .ok (.iadd, 1) := do_60 DL_law_1197
theorem dL_law_1198 : decode cL_law 1198 = .ok (.iaload, 1) := do_2e DL_law_1198
theorem dL_law_1199 : decode cL_law 1199 = .ok (.aload_n 0, 1) := do_2a DL_law_1199
theorem dL_law_1200 : decode cL_law 1200 = .ok (.iload 4, 2) := do_15 DL_law_1200
theorem dL_law_1202 : decode cL_law 1202 = .ok (.iconst 2, 1) := do_05 DL_law_1202
theorem dL_law_1203 : decode cL_law 1203 = .ok (.iadd, 1) := do_60 DL_law_1203
theorem dL_law_1204 : decode cL_law 1204 = .ok (.iaload, 1) := do_2e DL_law_1204
theorem dL_law_1205 : decode cL_law 1205 = .ok (.aload_n 0, 1) := do_2a DL_law_1205
theorem dL_law_1206 : decode cL_law 1206 = .ok (.iload 4, 2) := do_15 DL_law_1206
theorem dL_law_1208 : decode cL_law 1208 = .ok (.iconst 3, 1) := do_06 DL_law_1208
theorem dL_law_1209 : decode cL_law 1209 = .ok (.iadd, 1) := do_60 DL_law_1209
theorem dL_law_1210 : decode cL_law 1210 = .ok (.iaload, 1) := do_2e DL_law_1210
theorem dL_law_1211 : decode cL_law 1211 = .ok (.aload_n 3, 1) := do_2d DL_law_1211
theorem dL_law_1212 : decode cL_law 1212 = .ok (.invokestatic 248, 3) := do_b8 DL_law_1212
theorem dL_law_1215 : decode cL_law 1215 = .ok (.istore 5, 2) := do_36 DL_law_1215
theorem dL_law_1217 : decode cL_law 1217 = .ok (.aload_n 2, 1) := do_2c DL_law_1217
theorem dL_law_1218 : decode cL_law 1218 = .ok (.aload_n 0, 1) := do_2a DL_law_1218
theorem dL_law_1219 : decode cL_law 1219 = .ok (.iload 4, 2) := do_15 DL_law_1219
theorem dL_law_1221 : decode cL_law 1221 = .ok (.iconst 1, 1) := do_04 DL_law_1221
theorem dL_law_1222 : decode cL_law 1222 = .ok (.iadd, 1) := do_60 DL_law_1222
theorem dL_law_1223 : decode cL_law 1223 = .ok (.iaload, 1) := do_2e DL_law_1223
theorem dL_law_1224 : decode cL_law 1224 = .ok (.aload_n 0, 1) := do_2a DL_law_1224
theorem dL_law_1225 : decode cL_law 1225 = .ok (.iload 4, 2) := do_15 DL_law_1225
theorem dL_law_1227 : decode cL_law 1227 = .ok (.iconst 2, 1) := do_05 DL_law_1227
theorem dL_law_1228 : decode cL_law 1228 = .ok (.iadd, 1) := do_60 DL_law_1228
theorem dL_law_1229 : decode cL_law 1229 = .ok (.iaload, 1) := do_2e DL_law_1229
theorem dL_law_1230 : decode cL_law 1230 = .ok (.aload_n 0, 1) := do_2a DL_law_1230
theorem dL_law_1231 : decode cL_law 1231 = .ok (.iload 4, 2) := do_15 DL_law_1231
theorem dL_law_1233 : decode cL_law 1233 = .ok (.iconst 3, 1) := do_06 DL_law_1233
theorem dL_law_1234 : decode cL_law 1234 = .ok (.iadd, 1) := do_60 DL_law_1234
theorem dL_law_1235 : decode cL_law 1235 = .ok (.iaload, 1) := do_2e DL_law_1235
theorem dL_law_1236 : decode cL_law 1236 = .ok (.invokevirtual 250, 3) := do_b6 DL_law_1236
theorem dL_law_1239 : decode cL_law 1239 = .ok (.istore 6, 2) := do_36 DL_law_1239
theorem dL_law_1241 : decode cL_law 1241 = .ok (.goto 972, 3) := do_a7 DL_law_1241 (by decide +kernel)
theorem dL_law_1244 : decode cL_law 1244 = .ok (.aload_n 1, 1) := do_2b DL_law_1244
theorem dL_law_1245 : decode cL_law 1245 = .ok (.aload_n 0, 1) := do_2a DL_law_1245
theorem dL_law_1246 : decode cL_law 1246 = .ok (.iload 4, 2) := do_15 DL_law_1246
theorem dL_law_1248 : decode cL_law 1248 = .ok (.iconst 1, 1) := do_04 DL_law_1248
theorem dL_law_1249 : decode cL_law 1249 = .ok (.iadd, 1) := do_60 DL_law_1249
theorem dL_law_1250 : decode cL_law 1250 = .ok (.iaload, 1) := do_2e DL_law_1250
theorem dL_law_1251 : decode cL_law 1251 = .ok (.aload_n 0, 1) := do_2a DL_law_1251
theorem dL_law_1252 : decode cL_law 1252 = .ok (.iload 4, 2) := do_15 DL_law_1252
theorem dL_law_1254 : decode cL_law 1254 = .ok (.iconst 2, 1) := do_05 DL_law_1254
theorem dL_law_1255 : decode cL_law 1255 = .ok (.iadd, 1) := do_60 DL_law_1255
theorem dL_law_1256 : decode cL_law 1256 = .ok (.iaload, 1) := do_2e DL_law_1256
theorem dL_law_1257 : decode cL_law 1257 = .ok (.aload_n 3, 1) := do_2d DL_law_1257
theorem dL_law_1258 : decode cL_law 1258 = .ok (.invokestatic 251, 3) := do_b8 DL_law_1258
theorem dL_law_1261 : decode cL_law 1261 = .ok (.istore 5, 2) := do_36 DL_law_1261
theorem dL_law_1263 : decode cL_law 1263 = .ok (.aload_n 2, 1) := do_2c DL_law_1263
theorem dL_law_1264 : decode cL_law 1264 = .ok (.aload_n 0, 1) := do_2a DL_law_1264
theorem dL_law_1265 : decode cL_law 1265 = .ok (.iload 4, 2) := do_15 DL_law_1265
theorem dL_law_1267 : decode cL_law 1267 = .ok (.iconst 1, 1) := do_04 DL_law_1267
theorem dL_law_1268 : decode cL_law 1268 = .ok (.iadd, 1) := do_60 DL_law_1268
theorem dL_law_1269 : decode cL_law 1269 = .ok (.iaload, 1) := do_2e DL_law_1269
theorem dL_law_1270 : decode cL_law 1270 = .ok (.aload_n 0, 1) := do_2a DL_law_1270
theorem dL_law_1271 : decode cL_law 1271 = .ok (.iload 4, 2) := do_15 DL_law_1271
theorem dL_law_1273 : decode cL_law 1273 = .ok (.iconst 2, 1) := do_05 DL_law_1273
theorem dL_law_1274 : decode cL_law 1274 = .ok (.iadd, 1) := do_60 DL_law_1274
theorem dL_law_1275 : decode cL_law 1275 = .ok (.iaload, 1) := do_2e DL_law_1275
theorem dL_law_1276 : decode cL_law 1276 = .ok (.invokevirtual 253, 3) := do_b6 DL_law_1276
theorem dL_law_1279 : decode cL_law 1279 = .ok (.istore 6, 2) := do_36 DL_law_1279
theorem dL_law_1281 : decode cL_law 1281 = .ok (.goto 932, 3) := do_a7 DL_law_1281 (by decide +kernel)
theorem dL_law_1284 : decode cL_law 1284 = .ok (.aload_n 1, 1) := do_2b DL_law_1284
theorem dL_law_1285 : decode cL_law 1285 = .ok (.aload_n 0, 1) := do_2a DL_law_1285
theorem dL_law_1286 : decode cL_law 1286 = .ok (.iload 4, 2) := do_15 DL_law_1286
theorem dL_law_1288 : decode cL_law 1288 = .ok (.iconst 1, 1) := do_04 DL_law_1288
theorem dL_law_1289 : decode cL_law 1289 = .ok (.iadd, 1) := do_60 DL_law_1289
theorem dL_law_1290 : decode cL_law 1290 = .ok (.iaload, 1) := do_2e DL_law_1290
theorem dL_law_1291 : decode cL_law 1291 = .ok (.aload_n 0, 1) := do_2a DL_law_1291
theorem dL_law_1292 : decode cL_law 1292 = .ok (.iload 4, 2) := do_15 DL_law_1292
theorem dL_law_1294 : decode cL_law 1294 = .ok (.iconst 2, 1) := do_05 DL_law_1294
theorem dL_law_1295 : decode cL_law 1295 = .ok (.iadd, 1) := do_60 DL_law_1295
theorem dL_law_1296 : decode cL_law 1296 = .ok (.iaload, 1) := do_2e DL_law_1296
theorem dL_law_1297 : decode cL_law 1297 = .ok (.ifCond .eq 7, 3) := do_99 DL_law_1297 (by decide +kernel)
theorem dL_law_1300 : decode cL_law 1300 = .ok (.iconst 1, 1) := do_04 DL_law_1300
theorem dL_law_1301 : decode cL_law 1301 = .ok (.goto 4, 3) := do_a7 DL_law_1301 (by decide +kernel)
theorem dL_law_1304 : decode cL_law 1304 = .ok (.iconst 0, 1) := do_03 DL_law_1304
theorem dL_law_1305 : decode cL_law 1305 = .ok (.aload_n 3, 1) := do_2d DL_law_1305
theorem dL_law_1306 : decode cL_law 1306 = .ok (.invokestatic 254, 3) := do_b8 DL_law_1306
theorem dL_law_1309 : decode cL_law 1309 = .ok (.istore 5, 2) := do_36 DL_law_1309
theorem dL_law_1311 : decode cL_law 1311 = .ok (.aload_n 2, 1) := do_2c DL_law_1311
theorem dL_law_1312 : decode cL_law 1312 = .ok (.aload_n 0, 1) := do_2a DL_law_1312
theorem dL_law_1313 : decode cL_law 1313 = .ok (.iload 4, 2) := do_15 DL_law_1313
theorem dL_law_1315 : decode cL_law 1315 = .ok (.iconst 1, 1) := do_04 DL_law_1315
theorem dL_law_1316 : decode cL_law 1316 = .ok (.iadd, 1) := do_60 DL_law_1316
theorem dL_law_1317 : decode cL_law 1317 = .ok (.iaload, 1) := do_2e DL_law_1317
theorem dL_law_1318 : decode cL_law 1318 = .ok (.aload_n 0, 1) := do_2a DL_law_1318
theorem dL_law_1319 : decode cL_law 1319 = .ok (.iload 4, 2) := do_15 DL_law_1319
theorem dL_law_1321 : decode cL_law 1321 = .ok (.iconst 2, 1) := do_05 DL_law_1321
theorem dL_law_1322 : decode cL_law 1322 = .ok (.iadd, 1) := do_60 DL_law_1322
theorem dL_law_1323 : decode cL_law 1323 = .ok (.iaload, 1) := do_2e DL_law_1323
theorem dL_law_1324 : decode cL_law 1324 = .ok (.ifCond .eq 7, 3) := do_99 DL_law_1324 (by decide +kernel)
theorem dL_law_1327 : decode cL_law 1327 = .ok (.iconst 1, 1) := do_04 DL_law_1327
theorem dL_law_1328 : decode cL_law 1328 = .ok (.goto 4, 3) := do_a7 DL_law_1328 (by decide +kernel)
theorem dL_law_1331 : decode cL_law 1331 = .ok (.iconst 0, 1) := do_03 DL_law_1331
theorem dL_law_1332 : decode cL_law 1332 = .ok (.invokevirtual 256, 3) := do_b6 DL_law_1332
theorem dL_law_1335 : decode cL_law 1335 = .ok (.istore 6, 2) := do_36 DL_law_1335
theorem dL_law_1337 : decode cL_law 1337 = .ok (.aload_n 2, 1) := do_2c DL_law_1337
theorem dL_law_1338 : decode cL_law 1338 = .ok (.invokevirtual 257, 3) := do_b6 DL_law_1338
theorem dL_law_1341 : decode cL_law 1341 = .ok (.iload 5, 2) := do_15 DL_law_1341
theorem dL_law_1343 : decode cL_law 1343 = .ok (.if_icmp .eq 5, 3) := do_9f DL_law_1343 (by decide +kernel)
theorem dL_law_1346 : decode cL_law 1346 = .ok (.iconst 0, 1) := do_03 DL_law_1346
theorem dL_law_1347 : decode cL_law 1347 = .ok (.ireturn, 1) := do_ac DL_law_1347
theorem dL_law_1348 : decode cL_law 1348 = .ok (.iload 5, 2) := do_15 DL_law_1348
theorem dL_law_1350 : decode cL_law 1350 = .ok (.ifCond .ne 16, 3) := do_9a DL_law_1350 (by decide +kernel)
theorem dL_law_1353 : decode cL_law 1353 = .ok (.aload_n 3, 1) := do_2d DL_law_1353
theorem dL_law_1354 : decode cL_law 1354 = .ok (.getfield 13, 3) := do_b4 DL_law_1354
theorem dL_law_1357 : decode cL_law 1357 = .ok (.iload 6, 2) := do_15 DL_law_1357
theorem dL_law_1359 : decode cL_law 1359 = .ok (.i2l, 1) := do_85 DL_law_1359
theorem dL_law_1360 : decode cL_law 1360 = .ok (.lcmp, 1) := do_94 DL_law_1360
theorem dL_law_1361 : decode cL_law 1361 = .ok (.ifCond .eq 5, 3) := do_99 DL_law_1361 (by decide +kernel)
theorem dL_law_1364 : decode cL_law 1364 = .ok (.iconst 0, 1) := do_03 DL_law_1364
theorem dL_law_1365 : decode cL_law 1365 = .ok (.ireturn, 1) := do_ac DL_law_1365
theorem dL_law_1366 : decode cL_law 1366 = .ok (.goto 847, 3) := do_a7 DL_law_1366 (by decide +kernel)
theorem dL_law_1369 : decode cL_law 1369 = .ok (.aload_n 1, 1) := do_2b DL_law_1369
theorem dL_law_1370 : decode cL_law 1370 = .ok (.aload_n 0, 1) := do_2a DL_law_1370
theorem dL_law_1371 : decode cL_law 1371 = .ok (.iload 4, 2) := do_15 DL_law_1371
theorem dL_law_1373 : decode cL_law 1373 = .ok (.iconst 1, 1) := do_04 DL_law_1373
theorem dL_law_1374 : decode cL_law 1374 = .ok (.iadd, 1) := do_60 DL_law_1374
theorem dL_law_1375 : decode cL_law 1375 = .ok (.iaload, 1) := do_2e DL_law_1375
theorem dL_law_1376 : decode cL_law 1376 = .ok (.aload_n 0, 1) := do_2a DL_law_1376
theorem dL_law_1377 : decode cL_law 1377 = .ok (.iload 4, 2) := do_15 DL_law_1377
theorem dL_law_1379 : decode cL_law 1379 = .ok (.iconst 2, 1) := do_05 DL_law_1379
theorem dL_law_1380 : decode cL_law 1380 = .ok (.iadd, 1) := do_60 DL_law_1380
theorem dL_law_1381 : decode cL_law 1381 = .ok (.iaload, 1) := do_2e DL_law_1381
theorem dL_law_1382 : decode cL_law 1382 = .ok (.aload_n 3, 1) := do_2d DL_law_1382
theorem dL_law_1383 : decode cL_law 1383 = .ok (.invokestatic 261, 3) := do_b8 DL_law_1383
theorem dL_law_1386 : decode cL_law 1386 = .ok (.istore 5, 2) := do_36 DL_law_1386
theorem dL_law_1388 : decode cL_law 1388 = .ok (.aload_n 2, 1) := do_2c DL_law_1388
theorem dL_law_1389 : decode cL_law 1389 = .ok (.aload_n 0, 1) := do_2a DL_law_1389
theorem dL_law_1390 : decode cL_law 1390 = .ok (.iload 4, 2) := do_15 DL_law_1390
theorem dL_law_1392 : decode cL_law 1392 = .ok (.iconst 1, 1) := do_04 DL_law_1392
theorem dL_law_1393 : decode cL_law 1393 = .ok (.iadd, 1) := do_60 DL_law_1393
theorem dL_law_1394 : decode cL_law 1394 = .ok (.iaload, 1) := do_2e DL_law_1394
theorem dL_law_1395 : decode cL_law 1395 = .ok (.aload_n 0, 1) := do_2a DL_law_1395
theorem dL_law_1396 : decode cL_law 1396 = .ok (.iload 4, 2) := do_15 DL_law_1396
theorem dL_law_1398 : decode cL_law 1398 = .ok (.iconst 2, 1) := do_05 DL_law_1398
theorem dL_law_1399 : decode cL_law 1399 = .ok (.iadd, 1) := do_60 DL_law_1399
theorem dL_law_1400 : decode cL_law 1400 = .ok (.iaload, 1) := do_2e DL_law_1400
theorem dL_law_1401 : decode cL_law 1401 = .ok (.invokevirtual 263, 3) := do_b6 DL_law_1401
theorem dL_law_1404 : decode cL_law 1404 = .ok (.istore 6, 2) := do_36 DL_law_1404
theorem dL_law_1406 : decode cL_law 1406 = .ok (.goto 807, 3) := do_a7 DL_law_1406 (by decide +kernel)
theorem dL_law_1409 : decode cL_law 1409 = .ok (.aload_n 1, 1) := do_2b DL_law_1409
theorem dL_law_1410 : decode cL_law 1410 = .ok (.aload_n 0, 1) := do_2a DL_law_1410
theorem dL_law_1411 : decode cL_law 1411 = .ok (.iload 4, 2) := do_15 DL_law_1411
theorem dL_law_1413 : decode cL_law 1413 = .ok (.iconst 1, 1) := do_04 DL_law_1413
theorem dL_law_1414 : decode cL_law 1414 = .ok (.iadd, 1) := do_60 DL_law_1414
theorem dL_law_1415 : decode cL_law 1415 = .ok (.iaload, 1) := do_2e DL_law_1415
theorem dL_law_1416 : decode cL_law 1416 = .ok (.aload_n 0, 1) := do_2a DL_law_1416
theorem dL_law_1417 : decode cL_law 1417 = .ok (.iload 4, 2) := do_15 DL_law_1417
theorem dL_law_1419 : decode cL_law 1419 = .ok (.iconst 2, 1) := do_05 DL_law_1419
theorem dL_law_1420 : decode cL_law 1420 = .ok (.iadd, 1) := do_60 DL_law_1420
theorem dL_law_1421 : decode cL_law 1421 = .ok (.iaload, 1) := do_2e DL_law_1421
theorem dL_law_1422 : decode cL_law 1422 = .ok (.aload_n 3, 1) := do_2d DL_law_1422
theorem dL_law_1423 : decode cL_law 1423 = .ok (.invokestatic 264, 3) := do_b8 DL_law_1423
theorem dL_law_1426 : decode cL_law 1426 = .ok (.istore 5, 2) := do_36 DL_law_1426
theorem dL_law_1428 : decode cL_law 1428 = .ok (.aload_n 2, 1) := do_2c DL_law_1428
theorem dL_law_1429 : decode cL_law 1429 = .ok (.aload_n 0, 1) := do_2a DL_law_1429
theorem dL_law_1430 : decode cL_law 1430 = .ok (.iload 4, 2) := do_15 DL_law_1430
theorem dL_law_1432 : decode cL_law 1432 = .ok (.iconst 1, 1) := do_04 DL_law_1432
theorem dL_law_1433 : decode cL_law 1433 = .ok (.iadd, 1) := do_60 DL_law_1433
theorem dL_law_1434 : decode cL_law 1434 = .ok (.iaload, 1) := do_2e DL_law_1434
theorem dL_law_1435 : decode cL_law 1435 = .ok (.aload_n 0, 1) := do_2a DL_law_1435
theorem dL_law_1436 : decode cL_law 1436 = .ok (.iload 4, 2) := do_15 DL_law_1436
theorem dL_law_1438 : decode cL_law 1438 = .ok (.iconst 2, 1) := do_05 DL_law_1438
theorem dL_law_1439 : decode cL_law 1439 = .ok (.iadd, 1) := do_60 DL_law_1439
theorem dL_law_1440 : decode cL_law 1440 = .ok (.iaload, 1) := do_2e DL_law_1440
theorem dL_law_1441 : decode cL_law 1441 = .ok (.invokevirtual 266, 3) := do_b6 DL_law_1441
theorem dL_law_1444 : decode cL_law 1444 = .ok (.istore 6, 2) := do_36 DL_law_1444
theorem dL_law_1446 : decode cL_law 1446 = .ok (.goto 767, 3) := do_a7 DL_law_1446 (by decide +kernel)
theorem dL_law_1449 : decode cL_law 1449 = .ok (.aload_n 1, 1) := do_2b DL_law_1449
theorem dL_law_1450 : decode cL_law 1450 = .ok (.aload_n 0, 1) := do_2a DL_law_1450
theorem dL_law_1451 : decode cL_law 1451 = .ok (.iload 4, 2) := do_15 DL_law_1451
theorem dL_law_1453 : decode cL_law 1453 = .ok (.iconst 1, 1) := do_04 DL_law_1453
theorem dL_law_1454 : decode cL_law 1454 = .ok (.iadd, 1) := do_60 DL_law_1454
theorem dL_law_1455 : decode cL_law 1455 = .ok (.iaload, 1) := do_2e DL_law_1455
theorem dL_law_1456 : decode cL_law 1456 = .ok (.aload_n 3, 1) := do_2d DL_law_1456
theorem dL_law_1457 : decode cL_law 1457 = .ok (.invokestatic 267, 3) := do_b8 DL_law_1457
theorem dL_law_1460 : decode cL_law 1460 = .ok (.istore 5, 2) := do_36 DL_law_1460
theorem dL_law_1462 : decode cL_law 1462 = .ok (.aload_n 2, 1) := do_2c DL_law_1462
theorem dL_law_1463 : decode cL_law 1463 = .ok (.aload_n 0, 1) := do_2a DL_law_1463
theorem dL_law_1464 : decode cL_law 1464 = .ok (.iload 4, 2) := do_15 DL_law_1464
theorem dL_law_1466 : decode cL_law 1466 = .ok (.iconst 1, 1) := do_04 DL_law_1466
theorem dL_law_1467 : decode cL_law 1467 = .ok (.iadd, 1) := do_60 DL_law_1467
theorem dL_law_1468 : decode cL_law 1468 = .ok (.iaload, 1) := do_2e DL_law_1468
theorem dL_law_1469 : decode cL_law 1469 = .ok (.invokevirtual 269, 3) := do_b6 DL_law_1469
theorem dL_law_1472 : decode cL_law 1472 = .ok (.istore 6, 2) := do_36 DL_law_1472
theorem dL_law_1474 : decode cL_law 1474 = .ok (.goto 739, 3) := do_a7 DL_law_1474 (by decide +kernel)
theorem dL_law_1477 : decode cL_law 1477 = .ok (.aload_n 1, 1) := do_2b DL_law_1477
theorem dL_law_1478 : decode cL_law 1478 = .ok (.aload_n 0, 1) := do_2a DL_law_1478
theorem dL_law_1479 : decode cL_law 1479 = .ok (.iload 4, 2) := do_15 DL_law_1479
theorem dL_law_1481 : decode cL_law 1481 = .ok (.iconst 1, 1) := do_04 DL_law_1481
theorem dL_law_1482 : decode cL_law 1482 = .ok (.iadd, 1) := do_60 DL_law_1482
theorem dL_law_1483 : decode cL_law 1483 = .ok (.iaload, 1) := do_2e DL_law_1483
theorem dL_law_1484 : decode cL_law 1484 = .ok (.aload_n 0, 1) := do_2a DL_law_1484
theorem dL_law_1485 : decode cL_law 1485 = .ok (.iload 4, 2) := do_15 DL_law_1485
theorem dL_law_1487 : decode cL_law 1487 = .ok (.iconst 2, 1) := do_05 DL_law_1487
theorem dL_law_1488 : decode cL_law 1488 = .ok (.iadd, 1) := do_60 DL_law_1488
theorem dL_law_1489 : decode cL_law 1489 = .ok (.iaload, 1) := do_2e DL_law_1489
theorem dL_law_1490 : decode cL_law 1490 = .ok (.ifCond .eq 7, 3) := do_99 DL_law_1490 (by decide +kernel)
theorem dL_law_1493 : decode cL_law 1493 = .ok (.iconst 1, 1) := do_04 DL_law_1493
theorem dL_law_1494 : decode cL_law 1494 = .ok (.goto 4, 3) := do_a7 DL_law_1494 (by decide +kernel)
theorem dL_law_1497 : decode cL_law 1497 = .ok (.iconst 0, 1) := do_03 DL_law_1497
theorem dL_law_1498 : decode cL_law 1498 = .ok (.aload_n 3, 1) := do_2d DL_law_1498
theorem dL_law_1499 : decode cL_law 1499 = .ok (.invokestatic 270, 3) := do_b8 DL_law_1499
theorem dL_law_1502 : decode cL_law 1502 = .ok (.istore 5, 2) := do_36 DL_law_1502
theorem dL_law_1504 : decode cL_law 1504 = .ok (.aload_n 2, 1) := do_2c DL_law_1504
theorem dL_law_1505 : decode cL_law 1505 = .ok (.aload_n 0, 1) := do_2a DL_law_1505
theorem dL_law_1506 : decode cL_law 1506 = .ok (.iload 4, 2) := do_15 DL_law_1506
theorem dL_law_1508 : decode cL_law 1508 = .ok (.iconst 1, 1) := do_04 DL_law_1508
theorem dL_law_1509 : decode cL_law 1509 = .ok (.iadd, 1) := do_60 DL_law_1509
theorem dL_law_1510 : decode cL_law 1510 = .ok (.iaload, 1) := do_2e DL_law_1510
theorem dL_law_1511 : decode cL_law 1511 = .ok (.aload_n 0, 1) := do_2a DL_law_1511
theorem dL_law_1512 : decode cL_law 1512 = .ok (.iload 4, 2) := do_15 DL_law_1512
theorem dL_law_1514 : decode cL_law 1514 = .ok (.iconst 2, 1) := do_05 DL_law_1514
theorem dL_law_1515 : decode cL_law 1515 = .ok (.iadd, 1) := do_60 DL_law_1515
theorem dL_law_1516 : decode cL_law 1516 = .ok (.iaload, 1) := do_2e DL_law_1516
theorem dL_law_1517 : decode cL_law 1517 = .ok (.ifCond .eq 7, 3) := do_99 DL_law_1517 (by decide +kernel)
theorem dL_law_1520 : decode cL_law 1520 = .ok (.iconst 1, 1) := do_04 DL_law_1520
theorem dL_law_1521 : decode cL_law 1521 = .ok (.goto 4, 3) := do_a7 DL_law_1521 (by decide +kernel)
theorem dL_law_1524 : decode cL_law 1524 = .ok (.iconst 0, 1) := do_03 DL_law_1524
theorem dL_law_1525 : decode cL_law 1525 = .ok (.invokevirtual 272, 3) := do_b6 DL_law_1525
theorem dL_law_1528 : decode cL_law 1528 = .ok (.astore 6, 2) := do_3a DL_law_1528
theorem dL_law_1530 : decode cL_law 1530 = .ok (.goto 683, 3) := do_a7 DL_law_1530 (by decide +kernel)
theorem dL_law_1533 : decode cL_law 1533 = .ok (.aload_n 1, 1) := do_2b DL_law_1533
theorem dL_law_1534 : decode cL_law 1534 = .ok (.aload_n 0, 1) := do_2a DL_law_1534
theorem dL_law_1535 : decode cL_law 1535 = .ok (.iload 4, 2) := do_15 DL_law_1535
theorem dL_law_1537 : decode cL_law 1537 = .ok (.iconst 1, 1) := do_04 DL_law_1537
theorem dL_law_1538 : decode cL_law 1538 = .ok (.iadd, 1) := do_60 DL_law_1538
theorem dL_law_1539 : decode cL_law 1539 = .ok (.iaload, 1) := do_2e DL_law_1539
theorem dL_law_1540 : decode cL_law 1540 = .ok (.aload_n 3, 1) := do_2d DL_law_1540
theorem dL_law_1541 : decode cL_law 1541 = .ok (.invokestatic 273, 3) := do_b8 DL_law_1541
theorem dL_law_1544 : decode cL_law 1544 = .ok (.istore 5, 2) := do_36 DL_law_1544
theorem dL_law_1546 : decode cL_law 1546 = .ok (.aload_n 2, 1) := do_2c DL_law_1546
theorem dL_law_1547 : decode cL_law 1547 = .ok (.aload_n 0, 1) := do_2a DL_law_1547
theorem dL_law_1548 : decode cL_law 1548 = .ok (.iload 4, 2) := do_15 DL_law_1548
theorem dL_law_1550 : decode cL_law 1550 = .ok (.iconst 1, 1) := do_04 DL_law_1550
theorem dL_law_1551 : decode cL_law 1551 = .ok (.iadd, 1) := do_60 DL_law_1551
theorem dL_law_1552 : decode cL_law 1552 = .ok (.iaload, 1) := do_2e DL_law_1552
theorem dL_law_1553 : decode cL_law 1553 = .ok (.invokevirtual 275, 3) := do_b6 DL_law_1553
theorem dL_law_1556 : decode cL_law 1556 = .ok (.astore 6, 2) := do_3a DL_law_1556
theorem dL_law_1558 : decode cL_law 1558 = .ok (.goto 655, 3) := do_a7 DL_law_1558 (by decide +kernel)
theorem dL_law_1561 : decode cL_law 1561 = .ok (.aload_n 1, 1) := do_2b DL_law_1561
theorem dL_law_1562 : decode cL_law 1562 = .ok (.aload_n 0, 1) := do_2a DL_law_1562
theorem dL_law_1563 : decode cL_law 1563 = .ok (.iload 4, 2) := do_15 DL_law_1563
theorem dL_law_1565 : decode cL_law 1565 = .ok (.iconst 1, 1) := do_04 DL_law_1565
theorem dL_law_1566 : decode cL_law 1566 = .ok (.iadd, 1) := do_60 DL_law_1566
theorem dL_law_1567 : decode cL_law 1567 = .ok (.iaload, 1) := do_2e DL_law_1567
theorem dL_law_1568 : decode cL_law 1568 = .ok (.aload_n 0, 1) := do_2a DL_law_1568
theorem dL_law_1569 : decode cL_law 1569 = .ok (.iload 4, 2) := do_15 DL_law_1569
theorem dL_law_1571 : decode cL_law 1571 = .ok (.iconst 2, 1) := do_05 DL_law_1571
theorem dL_law_1572 : decode cL_law 1572 = .ok (.iadd, 1) := do_60 DL_law_1572
theorem dL_law_1573 : decode cL_law 1573 = .ok (.iaload, 1) := do_2e DL_law_1573
theorem dL_law_1574 : decode cL_law 1574 = .ok (.ifCond .eq 7, 3) := do_99 DL_law_1574 (by decide +kernel)
theorem dL_law_1577 : decode cL_law 1577 = .ok (.iconst 1, 1) := do_04 DL_law_1577
theorem dL_law_1578 : decode cL_law 1578 = .ok (.goto 4, 3) := do_a7 DL_law_1578 (by decide +kernel)
theorem dL_law_1581 : decode cL_law 1581 = .ok (.iconst 0, 1) := do_03 DL_law_1581
theorem dL_law_1582 : decode cL_law 1582 = .ok (.aload_n 0, 1) := do_2a DL_law_1582
theorem dL_law_1583 : decode cL_law 1583 = .ok (.iload 4, 2) := do_15 DL_law_1583
theorem dL_law_1585 : decode cL_law 1585 = .ok (.iconst 3, 1) := do_06 DL_law_1585
theorem dL_law_1586 : decode cL_law 1586 = .ok (.iadd, 1) := do_60 DL_law_1586
theorem dL_law_1587 : decode cL_law 1587 = .ok (.iaload, 1) := do_2e DL_law_1587
theorem dL_law_1588 : decode cL_law 1588 = .ok (.aload_n 3, 1) := do_2d DL_law_1588
theorem dL_law_1589 : decode cL_law 1589 = .ok (.invokestatic 276, 3) := do_b8 DL_law_1589
theorem dL_law_1592 : decode cL_law 1592 = .ok (.istore 5, 2) := do_36 DL_law_1592
theorem dL_law_1594 : decode cL_law 1594 = .ok (.aload_n 2, 1) := do_2c DL_law_1594
theorem dL_law_1595 : decode cL_law 1595 = .ok (.aload_n 0, 1) := do_2a DL_law_1595
theorem dL_law_1596 : decode cL_law 1596 = .ok (.iload 4, 2) := do_15 DL_law_1596
theorem dL_law_1598 : decode cL_law 1598 = .ok (.iconst 1, 1) := do_04 DL_law_1598
theorem dL_law_1599 : decode cL_law 1599 = .ok (.iadd, 1) := do_60 DL_law_1599
theorem dL_law_1600 : decode cL_law 1600 = .ok (.iaload, 1) := do_2e DL_law_1600
theorem dL_law_1601 : decode cL_law 1601 = .ok (.aload_n 0, 1) := do_2a DL_law_1601
theorem dL_law_1602 : decode cL_law 1602 = .ok (.iload 4, 2) := do_15 DL_law_1602
theorem dL_law_1604 : decode cL_law 1604 = .ok (.iconst 2, 1) := do_05 DL_law_1604
theorem dL_law_1605 : decode cL_law 1605 = .ok (.iadd, 1) := do_60 DL_law_1605
theorem dL_law_1606 : decode cL_law 1606 = .ok (.iaload, 1) := do_2e DL_law_1606
theorem dL_law_1607 : decode cL_law 1607 = .ok (.ifCond .eq 7, 3) := do_99 DL_law_1607 (by decide +kernel)
theorem dL_law_1610 : decode cL_law 1610 = .ok (.iconst 1, 1) := do_04 DL_law_1610
theorem dL_law_1611 : decode cL_law 1611 = .ok (.goto 4, 3) := do_a7 DL_law_1611 (by decide +kernel)
theorem dL_law_1614 : decode cL_law 1614 = .ok (.iconst 0, 1) := do_03 DL_law_1614
theorem dL_law_1615 : decode cL_law 1615 = .ok (.aload_n 0, 1) := do_2a DL_law_1615
theorem dL_law_1616 : decode cL_law 1616 = .ok (.iload 4, 2) := do_15 DL_law_1616
theorem dL_law_1618 : decode cL_law 1618 = .ok (.iconst 3, 1) := do_06 DL_law_1618
theorem dL_law_1619 : decode cL_law 1619 = .ok (.iadd, 1) := do_60 DL_law_1619
theorem dL_law_1620 : decode cL_law 1620 = .ok (.iaload, 1) := do_2e DL_law_1620
theorem dL_law_1621 : decode cL_law 1621 = .ok (.invokevirtual 278, 3) := do_b6 DL_law_1621
theorem dL_law_1624 : decode cL_law 1624 = .ok (.istore 6, 2) := do_36 DL_law_1624
theorem dL_law_1626 : decode cL_law 1626 = .ok (.goto 587, 3) := do_a7 DL_law_1626 (by decide +kernel)
theorem dL_law_1629 : decode cL_law 1629 = .ok (.aload_n 1, 1) := do_2b DL_law_1629
theorem dL_law_1630 : decode cL_law 1630 = .ok (.aload_n 0, 1) := do_2a DL_law_1630
theorem dL_law_1631 : decode cL_law 1631 = .ok (.iload 4, 2) := do_15 DL_law_1631
theorem dL_law_1633 : decode cL_law 1633 = .ok (.iconst 1, 1) := do_04 DL_law_1633
theorem dL_law_1634 : decode cL_law 1634 = .ok (.iadd, 1) := do_60 DL_law_1634
theorem dL_law_1635 : decode cL_law 1635 = .ok (.iaload, 1) := do_2e DL_law_1635
theorem dL_law_1636 : decode cL_law 1636 = .ok (.aload_n 3, 1) := do_2d DL_law_1636
theorem dL_law_1637 : decode cL_law 1637 = .ok (.invokestatic 279, 3) := do_b8 DL_law_1637
theorem dL_law_1640 : decode cL_law 1640 = .ok (.istore 5, 2) := do_36 DL_law_1640
theorem dL_law_1642 : decode cL_law 1642 = .ok (.aload_n 2, 1) := do_2c DL_law_1642
theorem dL_law_1643 : decode cL_law 1643 = .ok (.aload_n 0, 1) := do_2a DL_law_1643
theorem dL_law_1644 : decode cL_law 1644 = .ok (.iload 4, 2) := do_15 DL_law_1644
theorem dL_law_1646 : decode cL_law 1646 = .ok (.iconst 1, 1) := do_04 DL_law_1646
theorem dL_law_1647 : decode cL_law 1647 = .ok (.iadd, 1) := do_60 DL_law_1647
theorem dL_law_1648 : decode cL_law 1648 = .ok (.iaload, 1) := do_2e DL_law_1648
theorem dL_law_1649 : decode cL_law 1649 = .ok (.invokevirtual 281, 3) := do_b6 DL_law_1649
theorem dL_law_1652 : decode cL_law 1652 = .ok (.istore 6, 2) := do_36 DL_law_1652
theorem dL_law_1654 : decode cL_law 1654 = .ok (.goto 559, 3) := do_a7 DL_law_1654 (by decide +kernel)
theorem dL_law_1657 : decode cL_law 1657 = .ok (.aload_n 1, 1) := do_2b DL_law_1657
theorem dL_law_1658 : decode cL_law 1658 = .ok (.aload_n 0, 1) := do_2a DL_law_1658
theorem dL_law_1659 : decode cL_law 1659 = .ok (.iload 4, 2) := do_15 DL_law_1659
theorem dL_law_1661 : decode cL_law 1661 = .ok (.iconst 1, 1) := do_04 DL_law_1661
theorem dL_law_1662 : decode cL_law 1662 = .ok (.iadd, 1) := do_60 DL_law_1662
theorem dL_law_1663 : decode cL_law 1663 = .ok (.iaload, 1) := do_2e DL_law_1663
theorem dL_law_1664 : decode cL_law 1664 = .ok (.aload_n 0, 1) := do_2a DL_law_1664
theorem dL_law_1665 : decode cL_law 1665 = .ok (.iload 4, 2) := do_15 DL_law_1665
theorem dL_law_1667 : decode cL_law 1667 = .ok (.iconst 2, 1) := do_05 DL_law_1667
theorem dL_law_1668 : decode cL_law 1668 = .ok (.iadd, 1) := do_60 DL_law_1668
theorem dL_law_1669 : decode cL_law 1669 = .ok (.iaload, 1) := do_2e DL_law_1669
theorem dL_law_1670 : decode cL_law 1670 = .ok (.aload_n 0, 1) := do_2a DL_law_1670
theorem dL_law_1671 : decode cL_law 1671 = .ok (.iload 4, 2) := do_15 DL_law_1671
theorem dL_law_1673 : decode cL_law 1673 = .ok (.iconst 3, 1) := do_06 DL_law_1673
theorem dL_law_1674 : decode cL_law 1674 = .ok (.iadd, 1) := do_60 DL_law_1674
theorem dL_law_1675 : decode cL_law 1675 = .ok (.iaload, 1) := do_2e DL_law_1675
theorem dL_law_1676 : decode cL_law 1676 = .ok (.ifCond .eq 7, 3) := do_99 DL_law_1676 (by decide +kernel)
theorem dL_law_1679 : decode cL_law 1679 = .ok (.iconst 1, 1) := do_04 DL_law_1679
theorem dL_law_1680 : decode cL_law 1680 = .ok (.goto 4, 3) := do_a7 DL_law_1680 (by decide +kernel)
theorem dL_law_1683 : decode cL_law 1683 = .ok (.iconst 0, 1) := do_03 DL_law_1683
theorem dL_law_1684 : decode cL_law 1684 = .ok (.aload_n 3, 1) := do_2d DL_law_1684
theorem dL_law_1685 : decode cL_law 1685 = .ok (.invokestatic 282, 3) := do_b8 DL_law_1685
theorem dL_law_1688 : decode cL_law 1688 = .ok (.istore 5, 2) := do_36 DL_law_1688
theorem dL_law_1690 : decode cL_law 1690 = .ok (.aload_n 2, 1) := do_2c DL_law_1690
theorem dL_law_1691 : decode cL_law 1691 = .ok (.aload_n 0, 1) := do_2a DL_law_1691
theorem dL_law_1692 : decode cL_law 1692 = .ok (.iload 4, 2) := do_15 DL_law_1692
theorem dL_law_1694 : decode cL_law 1694 = .ok (.iconst 1, 1) := do_04 DL_law_1694
theorem dL_law_1695 : decode cL_law 1695 = .ok (.iadd, 1) := do_60 DL_law_1695
theorem dL_law_1696 : decode cL_law 1696 = .ok (.iaload, 1) := do_2e DL_law_1696
theorem dL_law_1697 : decode cL_law 1697 = .ok (.aload_n 0, 1) := do_2a DL_law_1697
theorem dL_law_1698 : decode cL_law 1698 = .ok (.iload 4, 2) := do_15 DL_law_1698
theorem dL_law_1700 : decode cL_law 1700 = .ok (.iconst 2, 1) := do_05 DL_law_1700
theorem dL_law_1701 : decode cL_law 1701 = .ok (.iadd, 1) := do_60 DL_law_1701
theorem dL_law_1702 : decode cL_law 1702 = .ok (.iaload, 1) := do_2e DL_law_1702
theorem dL_law_1703 : decode cL_law 1703 = .ok (.aload_n 0, 1) := do_2a DL_law_1703
theorem dL_law_1704 : decode cL_law 1704 = .ok (.iload 4, 2) := do_15 DL_law_1704
theorem dL_law_1706 : decode cL_law 1706 = .ok (.iconst 3, 1) := do_06 DL_law_1706
theorem dL_law_1707 : decode cL_law 1707 = .ok (.iadd, 1) := do_60 DL_law_1707
theorem dL_law_1708 : decode cL_law 1708 = .ok (.iaload, 1) := do_2e DL_law_1708
theorem dL_law_1709 : decode cL_law 1709 = .ok (.ifCond .eq 7, 3) := do_99 DL_law_1709 (by decide +kernel)
theorem dL_law_1712 : decode cL_law 1712 = .ok (.iconst 1, 1) := do_04 DL_law_1712
theorem dL_law_1713 : decode cL_law 1713 = .ok (.goto 4, 3) := do_a7 DL_law_1713 (by decide +kernel)
theorem dL_law_1716 : decode cL_law 1716 = .ok (.iconst 0, 1) := do_03 DL_law_1716
theorem dL_law_1717 : decode cL_law 1717 = .ok (.invokevirtual 285, 3) := do_b6 DL_law_1717
theorem dL_law_1720 : decode cL_law 1720 = .ok (.istore 6, 2) := do_36 DL_law_1720
theorem dL_law_1722 : decode cL_law 1722 = .ok (.goto 491, 3) := do_a7 DL_law_1722 (by decide +kernel)
theorem dL_law_1725 : decode cL_law 1725 = .ok (.aload_n 1, 1) := do_2b DL_law_1725
theorem dL_law_1726 : decode cL_law 1726 = .ok (.aload_n 0, 1) := do_2a DL_law_1726
theorem dL_law_1727 : decode cL_law 1727 = .ok (.iload 4, 2) := do_15 DL_law_1727
theorem dL_law_1729 : decode cL_law 1729 = .ok (.iconst 1, 1) := do_04 DL_law_1729
theorem dL_law_1730 : decode cL_law 1730 = .ok (.iadd, 1) := do_60 DL_law_1730
theorem dL_law_1731 : decode cL_law 1731 = .ok (.iaload, 1) := do_2e DL_law_1731
theorem dL_law_1732 : decode cL_law 1732 = .ok (.aload_n 0, 1) := do_2a DL_law_1732
theorem dL_law_1733 : decode cL_law 1733 = .ok (.iload 4, 2) := do_15 DL_law_1733
theorem dL_law_1735 : decode cL_law 1735 = .ok (.iconst 2, 1) := do_05 DL_law_1735
theorem dL_law_1736 : decode cL_law 1736 = .ok (.iadd, 1) := do_60 DL_law_1736
theorem dL_law_1737 : decode cL_law 1737 = .ok (.iaload, 1) := do_2e DL_law_1737
theorem dL_law_1738 : decode cL_law 1738 = .ok (.aload_n 3, 1) := do_2d DL_law_1738
theorem dL_law_1739 : decode cL_law 1739 = .ok (.invokestatic 286, 3) := do_b8 DL_law_1739
theorem dL_law_1742 : decode cL_law 1742 = .ok (.istore 5, 2) := do_36 DL_law_1742
theorem dL_law_1744 : decode cL_law 1744 = .ok (.aload_n 2, 1) := do_2c DL_law_1744
theorem dL_law_1745 : decode cL_law 1745 = .ok (.aload_n 0, 1) := do_2a DL_law_1745
theorem dL_law_1746 : decode cL_law 1746 = .ok (.iload 4, 2) := do_15 DL_law_1746
theorem dL_law_1748 : decode cL_law 1748 = .ok (.iconst 1, 1) := do_04 DL_law_1748
theorem dL_law_1749 : decode cL_law 1749 = .ok (.iadd, 1) := do_60 DL_law_1749
theorem dL_law_1750 : decode cL_law 1750 = .ok (.iaload, 1) := do_2e DL_law_1750
theorem dL_law_1751 : decode cL_law 1751 = .ok (.aload_n 0, 1) := do_2a DL_law_1751
theorem dL_law_1752 : decode cL_law 1752 = .ok (.iload 4, 2) := do_15 DL_law_1752
theorem dL_law_1754 : decode cL_law 1754 = .ok (.iconst 2, 1) := do_05 DL_law_1754
theorem dL_law_1755 : decode cL_law 1755 = .ok (.iadd, 1) := do_60 DL_law_1755
theorem dL_law_1756 : decode cL_law 1756 = .ok (.iaload, 1) := do_2e DL_law_1756
theorem dL_law_1757 : decode cL_law 1757 = .ok (.invokevirtual 288, 3) := do_b6 DL_law_1757
theorem dL_law_1760 : decode cL_law 1760 = .ok (.istore 6, 2) := do_36 DL_law_1760
theorem dL_law_1762 : decode cL_law 1762 = .ok (.goto 451, 3) := do_a7 DL_law_1762 (by decide +kernel)
theorem dL_law_1765 : decode cL_law 1765 = .ok (.aload_n 1, 1) := do_2b DL_law_1765
theorem dL_law_1766 : decode cL_law 1766 = .ok (.aload_n 0, 1) := do_2a DL_law_1766
theorem dL_law_1767 : decode cL_law 1767 = .ok (.iload 4, 2) := do_15 DL_law_1767
theorem dL_law_1769 : decode cL_law 1769 = .ok (.iconst 1, 1) := do_04 DL_law_1769
theorem dL_law_1770 : decode cL_law 1770 = .ok (.iadd, 1) := do_60 DL_law_1770
theorem dL_law_1771 : decode cL_law 1771 = .ok (.iaload, 1) := do_2e DL_law_1771
theorem dL_law_1772 : decode cL_law 1772 = .ok (.ifCond .eq 7, 3) := do_99 DL_law_1772 (by decide +kernel)
theorem dL_law_1775 : decode cL_law 1775 = .ok (.iconst 1, 1) := do_04 DL_law_1775
theorem dL_law_1776 : decode cL_law 1776 = .ok (.goto 4, 3) := do_a7 DL_law_1776 (by decide +kernel)
theorem dL_law_1779 : decode cL_law 1779 = .ok (.iconst 0, 1) := do_03 DL_law_1779
theorem dL_law_1780 : decode cL_law 1780 = .ok (.aload_n 0, 1) := do_2a DL_law_1780
theorem dL_law_1781 : decode cL_law 1781 = .ok (.iload 4, 2) := do_15 DL_law_1781
theorem dL_law_1783 : decode cL_law 1783 = .ok (.iconst 2, 1) := do_05 DL_law_1783
theorem dL_law_1784 : decode cL_law 1784 = .ok (.iadd, 1) := do_60 DL_law_1784
theorem dL_law_1785 : decode cL_law 1785 = .ok (.iaload, 1) := do_2e DL_law_1785
theorem dL_law_1786 : decode cL_law 1786 = .ok (.ifCond .eq 7, 3) := do_99 DL_law_1786 (by decide +kernel)
theorem dL_law_1789 : decode cL_law 1789 = .ok (.iconst 1, 1) := do_04 DL_law_1789
theorem dL_law_1790 : decode cL_law 1790 = .ok (.goto 4, 3) := do_a7 DL_law_1790 (by decide +kernel)
theorem dL_law_1793 : decode cL_law 1793 = .ok (.iconst 0, 1) := do_03 DL_law_1793
theorem dL_law_1794 : decode cL_law 1794 = .ok (.invokevirtual 289, 3) := do_b6 DL_law_1794
theorem dL_law_1797 : decode cL_law 1797 = .ok (.pop, 1) := do_57 DL_law_1797
theorem dL_law_1798 : decode cL_law 1798 = .ok (.aload_n 2, 1) := do_2c DL_law_1798
theorem dL_law_1799 : decode cL_law 1799 = .ok (.aload_n 0, 1) := do_2a DL_law_1799
theorem dL_law_1800 : decode cL_law 1800 = .ok (.iload 4, 2) := do_15 DL_law_1800
theorem dL_law_1802 : decode cL_law 1802 = .ok (.iconst 1, 1) := do_04 DL_law_1802
theorem dL_law_1803 : decode cL_law 1803 = .ok (.iadd, 1) := do_60 DL_law_1803
theorem dL_law_1804 : decode cL_law 1804 = .ok (.iaload, 1) := do_2e DL_law_1804
theorem dL_law_1805 : decode cL_law 1805 = .ok (.ifCond .eq 7, 3) := do_99 DL_law_1805 (by decide +kernel)
theorem dL_law_1808 : decode cL_law 1808 = .ok (.iconst 1, 1) := do_04 DL_law_1808
theorem dL_law_1809 : decode cL_law 1809 = .ok (.goto 4, 3) := do_a7 DL_law_1809 (by decide +kernel)
theorem dL_law_1812 : decode cL_law 1812 = .ok (.iconst 0, 1) := do_03 DL_law_1812
theorem dL_law_1813 : decode cL_law 1813 = .ok (.aload_n 0, 1) := do_2a DL_law_1813
theorem dL_law_1814 : decode cL_law 1814 = .ok (.iload 4, 2) := do_15 DL_law_1814
theorem dL_law_1816 : decode cL_law 1816 = .ok (.iconst 2, 1) := do_05 DL_law_1816
theorem dL_law_1817 : decode cL_law 1817 = .ok (.iadd, 1) := do_60 DL_law_1817
theorem dL_law_1818 : decode cL_law 1818 = .ok (.iaload, 1) := do_2e DL_law_1818
theorem dL_law_1819 : decode cL_law 1819 = .ok (.ifCond .eq 7, 3) := do_99 DL_law_1819 (by decide +kernel)
theorem dL_law_1822 : decode cL_law 1822 = .ok (.iconst 1, 1) := do_04 DL_law_1822
theorem dL_law_1823 : decode cL_law 1823 = .ok (.goto 4, 3) := do_a7 DL_law_1823 (by decide +kernel)
theorem dL_law_1826 : decode cL_law 1826 = .ok (.iconst 0, 1) := do_03 DL_law_1826
theorem dL_law_1827 : decode cL_law 1827 = .ok (.invokevirtual 293, 3) := do_b6 DL_law_1827
theorem dL_law_1830 : decode cL_law 1830 = .ok (.pop, 1) := do_57 DL_law_1830
theorem dL_law_1831 : decode cL_law 1831 = .ok (.goto 382, 3) := do_a7 DL_law_1831 (by decide +kernel)
theorem dL_law_1834 : decode cL_law 1834 = .ok (.aload_n 1, 1) := do_2b DL_law_1834
theorem dL_law_1835 : decode cL_law 1835 = .ok (.aload_n 0, 1) := do_2a DL_law_1835
theorem dL_law_1836 : decode cL_law 1836 = .ok (.iload 4, 2) := do_15 DL_law_1836
theorem dL_law_1838 : decode cL_law 1838 = .ok (.iconst 1, 1) := do_04 DL_law_1838
theorem dL_law_1839 : decode cL_law 1839 = .ok (.iadd, 1) := do_60 DL_law_1839
theorem dL_law_1840 : decode cL_law 1840 = .ok (.iaload, 1) := do_2e DL_law_1840
theorem dL_law_1841 : decode cL_law 1841 = .ok (.aload_n 0, 1) := do_2a DL_law_1841
theorem dL_law_1842 : decode cL_law 1842 = .ok (.iload 4, 2) := do_15 DL_law_1842
theorem dL_law_1844 : decode cL_law 1844 = .ok (.iconst 2, 1) := do_05 DL_law_1844
theorem dL_law_1845 : decode cL_law 1845 = .ok (.iadd, 1) := do_60 DL_law_1845
theorem dL_law_1846 : decode cL_law 1846 = .ok (.iaload, 1) := do_2e DL_law_1846
theorem dL_law_1847 : decode cL_law 1847 = .ok (.aload_n 3, 1) := do_2d DL_law_1847
theorem dL_law_1848 : decode cL_law 1848 = .ok (.invokestatic 294, 3) := do_b8 DL_law_1848
theorem dL_law_1851 : decode cL_law 1851 = .ok (.istore 5, 2) := do_36 DL_law_1851
theorem dL_law_1853 : decode cL_law 1853 = .ok (.aload_n 2, 1) := do_2c DL_law_1853
theorem dL_law_1854 : decode cL_law 1854 = .ok (.aload_n 0, 1) := do_2a DL_law_1854
theorem dL_law_1855 : decode cL_law 1855 = .ok (.iload 4, 2) := do_15 DL_law_1855
theorem dL_law_1857 : decode cL_law 1857 = .ok (.iconst 1, 1) := do_04 DL_law_1857
theorem dL_law_1858 : decode cL_law 1858 = .ok (.iadd, 1) := do_60 DL_law_1858
theorem dL_law_1859 : decode cL_law 1859 = .ok (.iaload, 1) := do_2e DL_law_1859
theorem dL_law_1860 : decode cL_law 1860 = .ok (.aload_n 0, 1) := do_2a DL_law_1860
theorem dL_law_1861 : decode cL_law 1861 = .ok (.iload 4, 2) := do_15 DL_law_1861
theorem dL_law_1863 : decode cL_law 1863 = .ok (.iconst 2, 1) := do_05 DL_law_1863
theorem dL_law_1864 : decode cL_law 1864 = .ok (.iadd, 1) := do_60 DL_law_1864
theorem dL_law_1865 : decode cL_law 1865 = .ok (.iaload, 1) := do_2e DL_law_1865
theorem dL_law_1866 : decode cL_law 1866 = .ok (.invokevirtual 296, 3) := do_b6 DL_law_1866
theorem dL_law_1869 : decode cL_law 1869 = .ok (.istore 6, 2) := do_36 DL_law_1869
theorem dL_law_1871 : decode cL_law 1871 = .ok (.goto 342, 3) := do_a7 DL_law_1871 (by decide +kernel)
theorem dL_law_1874 : decode cL_law 1874 = .ok (.aload_n 1, 1) := do_2b DL_law_1874
theorem dL_law_1875 : decode cL_law 1875 = .ok (.aload_n 0, 1) := do_2a DL_law_1875
theorem dL_law_1876 : decode cL_law 1876 = .ok (.iload 4, 2) := do_15 DL_law_1876
theorem dL_law_1878 : decode cL_law 1878 = .ok (.iconst 1, 1) := do_04 DL_law_1878
theorem dL_law_1879 : decode cL_law 1879 = .ok (.iadd, 1) := do_60 DL_law_1879
theorem dL_law_1880 : decode cL_law 1880 = .ok (.iaload, 1) := do_2e DL_law_1880
theorem dL_law_1881 : decode cL_law 1881 = .ok (.aload_n 3, 1) := do_2d DL_law_1881
theorem dL_law_1882 : decode cL_law 1882 = .ok (.invokestatic 297, 3) := do_b8 DL_law_1882
theorem dL_law_1885 : decode cL_law 1885 = .ok (.istore 5, 2) := do_36 DL_law_1885
theorem dL_law_1887 : decode cL_law 1887 = .ok (.aload_n 2, 1) := do_2c DL_law_1887
theorem dL_law_1888 : decode cL_law 1888 = .ok (.aload_n 0, 1) := do_2a DL_law_1888
theorem dL_law_1889 : decode cL_law 1889 = .ok (.iload 4, 2) := do_15 DL_law_1889
theorem dL_law_1891 : decode cL_law 1891 = .ok (.iconst 1, 1) := do_04 DL_law_1891
theorem dL_law_1892 : decode cL_law 1892 = .ok (.iadd, 1) := do_60 DL_law_1892
theorem dL_law_1893 : decode cL_law 1893 = .ok (.iaload, 1) := do_2e DL_law_1893
theorem dL_law_1894 : decode cL_law 1894 = .ok (.invokevirtual 299, 3) := do_b6 DL_law_1894
theorem dL_law_1897 : decode cL_law 1897 = .ok (.istore 6, 2) := do_36 DL_law_1897
theorem dL_law_1899 : decode cL_law 1899 = .ok (.goto 314, 3) := do_a7 DL_law_1899 (by decide +kernel)
theorem dL_law_1902 : decode cL_law 1902 = .ok (.aload_n 1, 1) := do_2b DL_law_1902
theorem dL_law_1903 : decode cL_law 1903 = .ok (.aload_n 0, 1) := do_2a DL_law_1903
theorem dL_law_1904 : decode cL_law 1904 = .ok (.iload 4, 2) := do_15 DL_law_1904
theorem dL_law_1906 : decode cL_law 1906 = .ok (.iconst 1, 1) := do_04 DL_law_1906
theorem dL_law_1907 : decode cL_law 1907 = .ok (.iadd, 1) := do_60 DL_law_1907
theorem dL_law_1908 : decode cL_law 1908 = .ok (.iaload, 1) := do_2e DL_law_1908
theorem dL_law_1909 : decode cL_law 1909 = .ok (.aload_n 3, 1) := do_2d DL_law_1909
theorem dL_law_1910 : decode cL_law 1910 = .ok (.invokestatic 300, 3) := do_b8 DL_law_1910
theorem dL_law_1913 : decode cL_law 1913 = .ok (.istore 5, 2) := do_36 DL_law_1913
theorem dL_law_1915 : decode cL_law 1915 = .ok (.aload_n 2, 1) := do_2c DL_law_1915
theorem dL_law_1916 : decode cL_law 1916 = .ok (.aload_n 0, 1) := do_2a DL_law_1916
theorem dL_law_1917 : decode cL_law 1917 = .ok (.iload 4, 2) := do_15 DL_law_1917
theorem dL_law_1919 : decode cL_law 1919 = .ok (.iconst 1, 1) := do_04 DL_law_1919
theorem dL_law_1920 : decode cL_law 1920 = .ok (.iadd, 1) := do_60 DL_law_1920
theorem dL_law_1921 : decode cL_law 1921 = .ok (.iaload, 1) := do_2e DL_law_1921
theorem dL_law_1922 : decode cL_law 1922 = .ok (.invokevirtual 302, 3) := do_b6 DL_law_1922
theorem dL_law_1925 : decode cL_law 1925 = .ok (.istore 6, 2) := do_36 DL_law_1925
theorem dL_law_1927 : decode cL_law 1927 = .ok (.goto 286, 3) := do_a7 DL_law_1927 (by decide +kernel)
theorem dL_law_1930 : decode cL_law 1930 = .ok (.aload_n 1, 1) := do_2b DL_law_1930
theorem dL_law_1931 : decode cL_law 1931 = .ok (.aload_n 0, 1) := do_2a DL_law_1931
theorem dL_law_1932 : decode cL_law 1932 = .ok (.iload 4, 2) := do_15 DL_law_1932
theorem dL_law_1934 : decode cL_law 1934 = .ok (.iconst 1, 1) := do_04 DL_law_1934
theorem dL_law_1935 : decode cL_law 1935 = .ok (.iadd, 1) := do_60 DL_law_1935
theorem dL_law_1936 : decode cL_law 1936 = .ok (.iaload, 1) := do_2e DL_law_1936
theorem dL_law_1937 : decode cL_law 1937 = .ok (.aload_n 0, 1) := do_2a DL_law_1937
theorem dL_law_1938 : decode cL_law 1938 = .ok (.iload 4, 2) := do_15 DL_law_1938
theorem dL_law_1940 : decode cL_law 1940 = .ok (.iconst 2, 1) := do_05 DL_law_1940
theorem dL_law_1941 : decode cL_law 1941 = .ok (.iadd, 1) := do_60 DL_law_1941
theorem dL_law_1942 : decode cL_law 1942 = .ok (.iaload, 1) := do_2e DL_law_1942
theorem dL_law_1943 : decode cL_law 1943 = .ok (.aload_n 3, 1) := do_2d DL_law_1943
theorem dL_law_1944 : decode cL_law 1944 = .ok (.invokestatic 303, 3) := do_b8 DL_law_1944
theorem dL_law_1947 : decode cL_law 1947 = .ok (.istore 5, 2) := do_36 DL_law_1947
theorem dL_law_1949 : decode cL_law 1949 = .ok (.aload_n 2, 1) := do_2c DL_law_1949
theorem dL_law_1950 : decode cL_law 1950 = .ok (.aload_n 0, 1) := do_2a DL_law_1950
theorem dL_law_1951 : decode cL_law 1951 = .ok (.iload 4, 2) := do_15 DL_law_1951
theorem dL_law_1953 : decode cL_law 1953 = .ok (.iconst 1, 1) := do_04 DL_law_1953
theorem dL_law_1954 : decode cL_law 1954 = .ok (.iadd, 1) := do_60 DL_law_1954
theorem dL_law_1955 : decode cL_law 1955 = .ok (.iaload, 1) := do_2e DL_law_1955
theorem dL_law_1956 : decode cL_law 1956 = .ok (.aload_n 0, 1) := do_2a DL_law_1956
theorem dL_law_1957 : decode cL_law 1957 = .ok (.iload 4, 2) := do_15 DL_law_1957
theorem dL_law_1959 : decode cL_law 1959 = .ok (.iconst 2, 1) := do_05 DL_law_1959
theorem dL_law_1960 : decode cL_law 1960 = .ok (.iadd, 1) := do_60 DL_law_1960
theorem dL_law_1961 : decode cL_law 1961 = .ok (.iaload, 1) := do_2e DL_law_1961
theorem dL_law_1962 : decode cL_law 1962 = .ok (.invokevirtual 305, 3) := do_b6 DL_law_1962
theorem dL_law_1965 : decode cL_law 1965 = .ok (.istore 6, 2) := do_36 DL_law_1965
theorem dL_law_1967 : decode cL_law 1967 = .ok (.goto 246, 3) := do_a7 DL_law_1967 (by decide +kernel)
theorem dL_law_1970 : decode cL_law 1970 = .ok (.aload_n 1, 1) := do_2b DL_law_1970
theorem dL_law_1971 : decode cL_law 1971 = .ok (.aload_n 0, 1) := do_2a DL_law_1971
theorem dL_law_1972 : decode cL_law 1972 = .ok (.iload 4, 2) := do_15 DL_law_1972
theorem dL_law_1974 : decode cL_law 1974 = .ok (.iconst 1, 1) := do_04 DL_law_1974
theorem dL_law_1975 : decode cL_law 1975 = .ok (.iadd, 1) := do_60 DL_law_1975
theorem dL_law_1976 : decode cL_law 1976 = .ok (.iaload, 1) := do_2e DL_law_1976
theorem dL_law_1977 : decode cL_law 1977 = .ok (.aload_n 3, 1) := do_2d DL_law_1977
theorem dL_law_1978 : decode cL_law 1978 = .ok (.invokestatic 306, 3) := do_b8 DL_law_1978
theorem dL_law_1981 : decode cL_law 1981 = .ok (.istore 5, 2) := do_36 DL_law_1981
theorem dL_law_1983 : decode cL_law 1983 = .ok (.aload_n 2, 1) := do_2c DL_law_1983
theorem dL_law_1984 : decode cL_law 1984 = .ok (.aload_n 0, 1) := do_2a DL_law_1984
theorem dL_law_1985 : decode cL_law 1985 = .ok (.iload 4, 2) := do_15 DL_law_1985
theorem dL_law_1987 : decode cL_law 1987 = .ok (.iconst 1, 1) := do_04 DL_law_1987
theorem dL_law_1988 : decode cL_law 1988 = .ok (.iadd, 1) := do_60 DL_law_1988
theorem dL_law_1989 : decode cL_law 1989 = .ok (.iaload, 1) := do_2e DL_law_1989
theorem dL_law_1990 : decode cL_law 1990 = .ok (.invokevirtual 308, 3) := do_b6 DL_law_1990
theorem dL_law_1993 : decode cL_law 1993 = .ok (.astore 6, 2) := do_3a DL_law_1993
theorem dL_law_1995 : decode cL_law 1995 = .ok (.goto 218, 3) := do_a7 DL_law_1995 (by decide +kernel)
theorem dL_law_1998 : decode cL_law 1998 = .ok (.aload_n 1, 1) := do_2b DL_law_1998
theorem dL_law_1999 : decode cL_law 1999 = .ok (.aload_n 0, 1) := do_2a DL_law_1999
theorem dL_law_2000 : decode cL_law 2000 = .ok (.iload 4, 2) := do_15 DL_law_2000
theorem dL_law_2002 : decode cL_law 2002 = .ok (.iconst 1, 1) := do_04 DL_law_2002
theorem dL_law_2003 : decode cL_law 2003 = .ok (.iadd, 1) := do_60 DL_law_2003
theorem dL_law_2004 : decode cL_law 2004 = .ok (.iaload, 1) := do_2e DL_law_2004
theorem dL_law_2005 : decode cL_law 2005 = .ok (.aload_n 0, 1) := do_2a DL_law_2005
theorem dL_law_2006 : decode cL_law 2006 = .ok (.iload 4, 2) := do_15 DL_law_2006
theorem dL_law_2008 : decode cL_law 2008 = .ok (.iconst 2, 1) := do_05 DL_law_2008
theorem dL_law_2009 : decode cL_law 2009 = .ok (.iadd, 1) := do_60 DL_law_2009
theorem dL_law_2010 : decode cL_law 2010 = .ok (.iaload, 1) := do_2e DL_law_2010
theorem dL_law_2011 : decode cL_law 2011 = .ok (.aload_n 3, 1) := do_2d DL_law_2011
theorem dL_law_2012 : decode cL_law 2012 = .ok (.invokestatic 309, 3) := do_b8 DL_law_2012
theorem dL_law_2015 : decode cL_law 2015 = .ok (.istore 5, 2) := do_36 DL_law_2015
theorem dL_law_2017 : decode cL_law 2017 = .ok (.aload_n 2, 1) := do_2c DL_law_2017
theorem dL_law_2018 : decode cL_law 2018 = .ok (.aload_n 0, 1) := do_2a DL_law_2018
theorem dL_law_2019 : decode cL_law 2019 = .ok (.iload 4, 2) := do_15 DL_law_2019
theorem dL_law_2021 : decode cL_law 2021 = .ok (.iconst 1, 1) := do_04 DL_law_2021
theorem dL_law_2022 : decode cL_law 2022 = .ok (.iadd, 1) := do_60 DL_law_2022
theorem dL_law_2023 : decode cL_law 2023 = .ok (.iaload, 1) := do_2e DL_law_2023
theorem dL_law_2024 : decode cL_law 2024 = .ok (.aload_n 0, 1) := do_2a DL_law_2024
theorem dL_law_2025 : decode cL_law 2025 = .ok (.iload 4, 2) := do_15 DL_law_2025
theorem dL_law_2027 : decode cL_law 2027 = .ok (.iconst 2, 1) := do_05 DL_law_2027
theorem dL_law_2028 : decode cL_law 2028 = .ok (.iadd, 1) := do_60 DL_law_2028
theorem dL_law_2029 : decode cL_law 2029 = .ok (.iaload, 1) := do_2e DL_law_2029
theorem dL_law_2030 : decode cL_law 2030 = .ok (.invokevirtual 311, 3) := do_b6 DL_law_2030
theorem dL_law_2033 : decode cL_law 2033 = .ok (.astore 6, 2) := do_3a DL_law_2033
theorem dL_law_2035 : decode cL_law 2035 = .ok (.goto 178, 3) := do_a7 DL_law_2035 (by decide +kernel)
theorem dL_law_2038 : decode cL_law 2038 = .ok (.aload_n 1, 1) := do_2b DL_law_2038
theorem dL_law_2039 : decode cL_law 2039 = .ok (.aload_n 0, 1) := do_2a DL_law_2039
theorem dL_law_2040 : decode cL_law 2040 = .ok (.iload 4, 2) := do_15 DL_law_2040
theorem dL_law_2042 : decode cL_law 2042 = .ok (.iconst 1, 1) := do_04 DL_law_2042
theorem dL_law_2043 : decode cL_law 2043 = .ok (.iadd, 1) := do_60 DL_law_2043
theorem dL_law_2044 : decode cL_law 2044 = .ok (.iaload, 1) := do_2e DL_law_2044
theorem dL_law_2045 : decode cL_law 2045 = .ok (.aload_n 0, 1) := do_2a DL_law_2045
theorem dL_law_2046 : decode cL_law 2046 = .ok (.iload 4, 2) := do_15 DL_law_2046
theorem dL_law_2048 : decode cL_law 2048 = .ok (.iconst 2, 1) := do_05 DL_law_2048
theorem dL_law_2049 : decode cL_law 2049 = .ok (.iadd, 1) := do_60 DL_law_2049
theorem dL_law_2050 : decode cL_law 2050 = .ok (.iaload, 1) := do_2e DL_law_2050
theorem dL_law_2051 : decode cL_law 2051 = .ok (.aload_n 3, 1) := do_2d DL_law_2051
theorem dL_law_2052 : decode cL_law 2052 = .ok (.invokestatic 312, 3) := do_b8 DL_law_2052
theorem dL_law_2055 : decode cL_law 2055 = .ok (.istore 5, 2) := do_36 DL_law_2055
theorem dL_law_2057 : decode cL_law 2057 = .ok (.aload_n 2, 1) := do_2c DL_law_2057
theorem dL_law_2058 : decode cL_law 2058 = .ok (.aload_n 0, 1) := do_2a DL_law_2058
theorem dL_law_2059 : decode cL_law 2059 = .ok (.iload 4, 2) := do_15 DL_law_2059
theorem dL_law_2061 : decode cL_law 2061 = .ok (.iconst 1, 1) := do_04 DL_law_2061
theorem dL_law_2062 : decode cL_law 2062 = .ok (.iadd, 1) := do_60 DL_law_2062
theorem dL_law_2063 : decode cL_law 2063 = .ok (.iaload, 1) := do_2e DL_law_2063
theorem dL_law_2064 : decode cL_law 2064 = .ok (.aload_n 0, 1) := do_2a DL_law_2064
theorem dL_law_2065 : decode cL_law 2065 = .ok (.iload 4, 2) := do_15 DL_law_2065
theorem dL_law_2067 : decode cL_law 2067 = .ok (.iconst 2, 1) := do_05 DL_law_2067
theorem dL_law_2068 : decode cL_law 2068 = .ok (.iadd, 1) := do_60 DL_law_2068
theorem dL_law_2069 : decode cL_law 2069 = .ok (.iaload, 1) := do_2e DL_law_2069
theorem dL_law_2070 : decode cL_law 2070 = .ok (.invokevirtual 314, 3) := do_b6 DL_law_2070
theorem dL_law_2073 : decode cL_law 2073 = .ok (.istore 6, 2) := do_36 DL_law_2073
theorem dL_law_2075 : decode cL_law 2075 = .ok (.goto 138, 3) := do_a7 DL_law_2075 (by decide +kernel)
theorem dL_law_2078 : decode cL_law 2078 = .ok (.aload_n 1, 1) := do_2b DL_law_2078
theorem dL_law_2079 : decode cL_law 2079 = .ok (.aload_n 0, 1) := do_2a DL_law_2079
theorem dL_law_2080 : decode cL_law 2080 = .ok (.iload 4, 2) := do_15 DL_law_2080
theorem dL_law_2082 : decode cL_law 2082 = .ok (.iconst 1, 1) := do_04 DL_law_2082
theorem dL_law_2083 : decode cL_law 2083 = .ok (.iadd, 1) := do_60 DL_law_2083
theorem dL_law_2084 : decode cL_law 2084 = .ok (.iaload, 1) := do_2e DL_law_2084
theorem dL_law_2085 : decode cL_law 2085 = .ok (.aload_n 0, 1) := do_2a DL_law_2085
theorem dL_law_2086 : decode cL_law 2086 = .ok (.iload 4, 2) := do_15 DL_law_2086
theorem dL_law_2088 : decode cL_law 2088 = .ok (.iconst 2, 1) := do_05 DL_law_2088
theorem dL_law_2089 : decode cL_law 2089 = .ok (.iadd, 1) := do_60 DL_law_2089
theorem dL_law_2090 : decode cL_law 2090 = .ok (.iaload, 1) := do_2e DL_law_2090
theorem dL_law_2091 : decode cL_law 2091 = .ok (.aload_n 3, 1) := do_2d DL_law_2091
theorem dL_law_2092 : decode cL_law 2092 = .ok (.invokestatic 315, 3) := do_b8 DL_law_2092
theorem dL_law_2095 : decode cL_law 2095 = .ok (.istore 5, 2) := do_36 DL_law_2095
theorem dL_law_2097 : decode cL_law 2097 = .ok (.aload_n 2, 1) := do_2c DL_law_2097
theorem dL_law_2098 : decode cL_law 2098 = .ok (.aload_n 0, 1) := do_2a DL_law_2098
theorem dL_law_2099 : decode cL_law 2099 = .ok (.iload 4, 2) := do_15 DL_law_2099
theorem dL_law_2101 : decode cL_law 2101 = .ok (.iconst 1, 1) := do_04 DL_law_2101
theorem dL_law_2102 : decode cL_law 2102 = .ok (.iadd, 1) := do_60 DL_law_2102
theorem dL_law_2103 : decode cL_law 2103 = .ok (.iaload, 1) := do_2e DL_law_2103
theorem dL_law_2104 : decode cL_law 2104 = .ok (.aload_n 0, 1) := do_2a DL_law_2104
theorem dL_law_2105 : decode cL_law 2105 = .ok (.iload 4, 2) := do_15 DL_law_2105
theorem dL_law_2107 : decode cL_law 2107 = .ok (.iconst 2, 1) := do_05 DL_law_2107
theorem dL_law_2108 : decode cL_law 2108 = .ok (.iadd, 1) := do_60 DL_law_2108
theorem dL_law_2109 : decode cL_law 2109 = .ok (.iaload, 1) := do_2e DL_law_2109
theorem dL_law_2110 : decode cL_law 2110 = .ok (.invokevirtual 317, 3) := do_b6 DL_law_2110
theorem dL_law_2113 : decode cL_law 2113 = .ok (.istore 6, 2) := do_36 DL_law_2113
theorem dL_law_2115 : decode cL_law 2115 = .ok (.goto 98, 3) := do_a7 DL_law_2115 (by decide +kernel)
theorem dL_law_2118 : decode cL_law 2118 = .ok (.aload_n 1, 1) := do_2b DL_law_2118
theorem dL_law_2119 : decode cL_law 2119 = .ok (.aload_n 0, 1) := do_2a DL_law_2119
theorem dL_law_2120 : decode cL_law 2120 = .ok (.iload 4, 2) := do_15 DL_law_2120
theorem dL_law_2122 : decode cL_law 2122 = .ok (.iconst 1, 1) := do_04 DL_law_2122
theorem dL_law_2123 : decode cL_law 2123 = .ok (.iadd, 1) := do_60 DL_law_2123
theorem dL_law_2124 : decode cL_law 2124 = .ok (.iaload, 1) := do_2e DL_law_2124
theorem dL_law_2125 : decode cL_law 2125 = .ok (.aload_n 3, 1) := do_2d DL_law_2125
theorem dL_law_2126 : decode cL_law 2126 = .ok (.invokestatic 318, 3) := do_b8 DL_law_2126
theorem dL_law_2129 : decode cL_law 2129 = .ok (.istore 5, 2) := do_36 DL_law_2129
theorem dL_law_2131 : decode cL_law 2131 = .ok (.aload_n 2, 1) := do_2c DL_law_2131
theorem dL_law_2132 : decode cL_law 2132 = .ok (.aload_n 0, 1) := do_2a DL_law_2132
theorem dL_law_2133 : decode cL_law 2133 = .ok (.iload 4, 2) := do_15 DL_law_2133
theorem dL_law_2135 : decode cL_law 2135 = .ok (.iconst 1, 1) := do_04 DL_law_2135
theorem dL_law_2136 : decode cL_law 2136 = .ok (.iadd, 1) := do_60 DL_law_2136
theorem dL_law_2137 : decode cL_law 2137 = .ok (.iaload, 1) := do_2e DL_law_2137
theorem dL_law_2138 : decode cL_law 2138 = .ok (.invokevirtual 320, 3) := do_b6 DL_law_2138
theorem dL_law_2141 : decode cL_law 2141 = .ok (.istore 6, 2) := do_36 DL_law_2141
theorem dL_law_2143 : decode cL_law 2143 = .ok (.goto 70, 3) := do_a7 DL_law_2143 (by decide +kernel)
theorem dL_law_2146 : decode cL_law 2146 = .ok (.aload_n 1, 1) := do_2b DL_law_2146
theorem dL_law_2147 : decode cL_law 2147 = .ok (.aload_n 0, 1) := do_2a DL_law_2147
theorem dL_law_2148 : decode cL_law 2148 = .ok (.iload 4, 2) := do_15 DL_law_2148
theorem dL_law_2150 : decode cL_law 2150 = .ok (.iconst 1, 1) := do_04 DL_law_2150
theorem dL_law_2151 : decode cL_law 2151 = .ok (.iadd, 1) := do_60 DL_law_2151
theorem dL_law_2152 : decode cL_law 2152 = .ok (.iaload, 1) := do_2e DL_law_2152
theorem dL_law_2153 : decode cL_law 2153 = .ok (.aload_n 3, 1) := do_2d DL_law_2153
theorem dL_law_2154 : decode cL_law 2154 = .ok (.invokestatic 321, 3) := do_b8 DL_law_2154
theorem dL_law_2157 : decode cL_law 2157 = .ok (.istore 5, 2) := do_36 DL_law_2157
theorem dL_law_2159 : decode cL_law 2159 = .ok (.aload_n 2, 1) := do_2c DL_law_2159
theorem dL_law_2160 : decode cL_law 2160 = .ok (.aload_n 0, 1) := do_2a DL_law_2160
theorem dL_law_2161 : decode cL_law 2161 = .ok (.iload 4, 2) := do_15 DL_law_2161
theorem dL_law_2163 : decode cL_law 2163 = .ok (.iconst 1, 1) := do_04 DL_law_2163
theorem dL_law_2164 : decode cL_law 2164 = .ok (.iadd, 1) := do_60 DL_law_2164
theorem dL_law_2165 : decode cL_law 2165 = .ok (.iaload, 1) := do_2e DL_law_2165
theorem dL_law_2166 : decode cL_law 2166 = .ok (.invokevirtual 323, 3) := do_b6 DL_law_2166
theorem dL_law_2169 : decode cL_law 2169 = .ok (.istore 6, 2) := do_36 DL_law_2169
theorem dL_law_2171 : decode cL_law 2171 = .ok (.goto 42, 3) := do_a7 DL_law_2171 (by decide +kernel)
theorem dL_law_2174 : decode cL_law 2174 = .ok (.aload_n 1, 1) := do_2b DL_law_2174
theorem dL_law_2175 : decode cL_law 2175 = .ok (.invokevirtual 324, 3) := do_b6 DL_law_2175
theorem dL_law_2178 : decode cL_law 2178 = .ok (.pop, 1) := do_57 DL_law_2178
theorem dL_law_2179 : decode cL_law 2179 = .ok (.aload_n 2, 1) := do_2c DL_law_2179
theorem dL_law_2180 : decode cL_law 2180 = .ok (.invokevirtual 327, 3) := do_b6 DL_law_2180
theorem dL_law_2183 : decode cL_law 2183 = .ok (.pop, 1) := do_57 DL_law_2183
theorem dL_law_2184 : decode cL_law 2184 = .ok (.goto 29, 3) := do_a7 DL_law_2184 (by decide +kernel)
theorem dL_law_2187 : decode cL_law 2187 = .ok (.aload_n 1, 1) := do_2b DL_law_2187
theorem dL_law_2188 : decode cL_law 2188 = .ok (.invokevirtual 328, 3) := do_b6 DL_law_2188
theorem dL_law_2191 : decode cL_law 2191 = .ok (.pop, 1) := do_57 DL_law_2191
theorem dL_law_2192 : decode cL_law 2192 = .ok (.aload_n 2, 1) := do_2c DL_law_2192
theorem dL_law_2193 : decode cL_law 2193 = .ok (.invokevirtual 332, 3) := do_b6 DL_law_2193
theorem dL_law_2196 : decode cL_law 2196 = .ok (.pop, 1) := do_57 DL_law_2196
theorem dL_law_2197 : decode cL_law 2197 = .ok (.goto 16, 3) := do_a7 DL_law_2197 (by decide +kernel)
theorem dL_law_2200 : decode cL_law 2200 = .ok (.aload_n 1, 1) := do_2b DL_law_2200
theorem dL_law_2201 : decode cL_law 2201 = .ok (.invokevirtual 333, 3) := do_b6 DL_law_2201
theorem dL_law_2204 : decode cL_law 2204 = .ok (.pop2, 1) := do_58 DL_law_2204
theorem dL_law_2205 : decode cL_law 2205 = .ok (.aload_n 2, 1) := do_2c DL_law_2205
theorem dL_law_2206 : decode cL_law 2206 = .ok (.invokevirtual 337, 3) := do_b6 DL_law_2206
theorem dL_law_2209 : decode cL_law 2209 = .ok (.pop2, 1) := do_58 DL_law_2209
theorem dL_law_2210 : decode cL_law 2210 = .ok (.goto 3, 3) := do_a7 DL_law_2210 (by decide +kernel)
theorem dL_law_2213 : decode cL_law 2213 = .ok (.iinc 4 5, 3) := do_84 DL_law_2213
theorem dL_law_2216 : decode cL_law 2216 = .ok (.goto (-2189), 3) := do_a7 DL_law_2216 (by decide +kernel)
theorem dL_law_2219 : decode cL_law 2219 = .ok (.iconst 1, 1) := do_04 DL_law_2219
theorem dL_law_2220 : decode cL_law 2220 = .ok (.ireturn, 1) := do_ac DL_law_2220
