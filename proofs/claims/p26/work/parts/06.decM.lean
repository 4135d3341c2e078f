theorem do_5c {c : ByteArray} {p : Nat} {t : List UInt8} (h : c.data.toList.drop p = (0x5c : UInt8) :: t) : decode c p = .ok (.dup2, 1) := dec_of (by
  unfold Decoder.instr
  exact (bind_at (u1_at h)).trans rfl)
theorem do_7b {c : ByteArray} {p : Nat} {t : List UInt8} (h : c.data.toList.drop p = (0x7b : UInt8) :: t) : decode c p = .ok (.lshr, 1) := dec_of (by
  unfold Decoder.instr
  exact (bind_at (u1_at h)).trans rfl)
theorem do_c0 {c : ByteArray} {p : Nat} {a b : UInt8} {t : List UInt8} (h : c.data.toList.drop p = (0xc0 : UInt8) :: a :: b :: t) : decode c p = .ok (.checkcast (a.toNat * 256 + b.toNat), 3) := dec_of (by
  unfold Decoder.instr
  exact (bind_at (u1_at h)).trans ((bind_at (u2_at (dr1 h))).trans rfl))
theorem do_4c {c : ByteArray} {p : Nat} {t : List UInt8} (h : c.data.toList.drop p = (0x4c : UInt8) :: t) : decode c p = .ok (.astore_n 1, 1) := dec_of (by
  unfold Decoder.instr
  exact (bind_at (u1_at h)).trans rfl)
theorem do_01 {c : ByteArray} {p : Nat} {t : List UInt8} (h : c.data.toList.drop p = (0x01 : UInt8) :: t) : decode c p = .ok (.aconst_null, 1) := dec_of (by
  unfold Decoder.instr
  exact (bind_at (u1_at h)).trans rfl)
theorem do_c6 {c : ByteArray} {p : Nat} {a b : UInt8} {t : List UInt8} (h : c.data.toList.drop p = (0xc6 : UInt8) :: a :: b :: t) {z : Int} (hz : (Reader.signed 16 (a.toNat * 256 + b.toNat)) = z) : decode c p = .ok (.ifnull z, 3) := dec_of (by
  unfold Decoder.instr
  exact (by
    subst hz
    exact (bind_at (u1_at h)).trans ((bind_at (s2_at (dr1 h))).trans rfl)))
theorem do_c7 {c : ByteArray} {p : Nat} {a b : UInt8} {t : List UInt8} (h : c.data.toList.drop p = (0xc7 : UInt8) :: a :: b :: t) {z : Int} (hz : (Reader.signed 16 (a.toNat * 256 + b.toNat)) = z) : decode c p = .ok (.ifnonnull z, 3) := dec_of (by
  unfold Decoder.instr
  exact (by
    subst hz
    exact (bind_at (u1_at h)).trans ((bind_at (s2_at (dr1 h))).trans rfl)))
def TX8_init_144 : List UInt8 := []
def TX8_init_143 : List UInt8 := 177 :: TX8_init_144
def TX8_init_140 : List UInt8 := 181 :: 0 :: 38 :: TX8_init_143
def TX8_init_138 : List UInt8 := 188 :: 10 :: TX8_init_140
def TX8_init_137 : List UInt8 := 8 :: TX8_init_138
def TX8_init_136 : List UInt8 := 42 :: TX8_init_137
def TX8_init_133 : List UInt8 := 181 :: 0 :: 35 :: TX8_init_136
def TX8_init_132 : List UInt8 := 83 :: TX8_init_133
def TX8_init_129 : List UInt8 := 184 :: 0 :: 31 :: TX8_init_132
def TX8_init_128 : List UInt8 := 8 :: TX8_init_129
def TX8_init_127 : List UInt8 := 5 :: TX8_init_128
def TX8_init_126 : List UInt8 := 89 :: TX8_init_127
def TX8_init_125 : List UInt8 := 83 :: TX8_init_126
def TX8_init_122 : List UInt8 := 184 :: 0 :: 31 :: TX8_init_125
def TX8_init_121 : List UInt8 := 8 :: TX8_init_122
def TX8_init_120 : List UInt8 := 4 :: TX8_init_121
def TX8_init_119 : List UInt8 := 89 :: TX8_init_120
def TX8_init_118 : List UInt8 := 83 :: TX8_init_119
def TX8_init_115 : List UInt8 := 184 :: 0 :: 31 :: TX8_init_118
def TX8_init_114 : List UInt8 := 8 :: TX8_init_115
def TX8_init_113 : List UInt8 := 3 :: TX8_init_114
def TX8_init_112 : List UInt8 := 89 :: TX8_init_113
def TX8_init_109 : List UInt8 := 189 :: 0 :: 19 :: TX8_init_112
def TX8_init_108 : List UInt8 := 6 :: TX8_init_109
def TX8_init_107 : List UInt8 := 42 :: TX8_init_108
def TX8_init_104 : List UInt8 := 181 :: 0 :: 28 :: TX8_init_107
def TX8_init_103 : List UInt8 := 83 :: TX8_init_104
def TX8_init_100 : List UInt8 := 184 :: 0 :: 20 :: TX8_init_103
def TX8_init_99 : List UInt8 := 9 :: TX8_init_100
def TX8_init_98 : List UInt8 := 5 :: TX8_init_99
def TX8_init_97 : List UInt8 := 89 :: TX8_init_98
def TX8_init_96 : List UInt8 := 83 :: TX8_init_97
def TX8_init_93 : List UInt8 := 184 :: 0 :: 20 :: TX8_init_96
def TX8_init_92 : List UInt8 := 9 :: TX8_init_93
def TX8_init_91 : List UInt8 := 4 :: TX8_init_92
def TX8_init_90 : List UInt8 := 89 :: TX8_init_91
def TX8_init_89 : List UInt8 := 83 :: TX8_init_90
def TX8_init_86 : List UInt8 := 184 :: 0 :: 20 :: TX8_init_89
def TX8_init_85 : List UInt8 := 9 :: TX8_init_86
def TX8_init_84 : List UInt8 := 3 :: TX8_init_85
def TX8_init_83 : List UInt8 := 89 :: TX8_init_84
def TX8_init_80 : List UInt8 := 189 :: 0 :: 19 :: TX8_init_83
def TX8_init_79 : List UInt8 := 6 :: TX8_init_80
def TX8_init_78 : List UInt8 := 42 :: TX8_init_79
def TX8_init_75 : List UInt8 := 181 :: 0 :: 24 :: TX8_init_78
def TX8_init_74 : List UInt8 := 83 :: TX8_init_75
def TX8_init_71 : List UInt8 := 184 :: 0 :: 20 :: TX8_init_74
def TX8_init_70 : List UInt8 := 10 :: TX8_init_71
def TX8_init_69 : List UInt8 := 5 :: TX8_init_70
def TX8_init_68 : List UInt8 := 89 :: TX8_init_69
def TX8_init_67 : List UInt8 := 83 :: TX8_init_68
def TX8_init_64 : List UInt8 := 184 :: 0 :: 20 :: TX8_init_67
def TX8_init_63 : List UInt8 := 10 :: TX8_init_64
def TX8_init_62 : List UInt8 := 4 :: TX8_init_63
def TX8_init_61 : List UInt8 := 89 :: TX8_init_62
def TX8_init_60 : List UInt8 := 83 :: TX8_init_61
def TX8_init_57 : List UInt8 := 184 :: 0 :: 20 :: TX8_init_60
def TX8_init_56 : List UInt8 := 10 :: TX8_init_57
def TX8_init_55 : List UInt8 := 3 :: TX8_init_56
def TX8_init_54 : List UInt8 := 89 :: TX8_init_55
def TX8_init_51 : List UInt8 := 189 :: 0 :: 19 :: TX8_init_54
def TX8_init_50 : List UInt8 := 6 :: TX8_init_51
def TX8_init_49 : List UInt8 := 42 :: TX8_init_50
def TX8_init_46 : List UInt8 := 181 :: 0 :: 16 :: TX8_init_49
def TX8_init_45 : List UInt8 := 79 :: TX8_init_46
def TX8_init_44 : List UInt8 := 5 :: TX8_init_45
def TX8_init_43 : List UInt8 := 5 :: TX8_init_44
def TX8_init_42 : List UInt8 := 89 :: TX8_init_43
def TX8_init_41 : List UInt8 := 79 :: TX8_init_42
def TX8_init_40 : List UInt8 := 5 :: TX8_init_41
def TX8_init_39 : List UInt8 := 4 :: TX8_init_40
def TX8_init_38 : List UInt8 := 89 :: TX8_init_39
def TX8_init_37 : List UInt8 := 79 :: TX8_init_38
def TX8_init_36 : List UInt8 := 5 :: TX8_init_37
def TX8_init_35 : List UInt8 := 3 :: TX8_init_36
def TX8_init_34 : List UInt8 := 89 :: TX8_init_35
def TX8_init_32 : List UInt8 := 188 :: 10 :: TX8_init_34
def TX8_init_31 : List UInt8 := 6 :: TX8_init_32
def TX8_init_30 : List UInt8 := 42 :: TX8_init_31
def TX8_init_27 : List UInt8 := 181 :: 0 :: 13 :: TX8_init_30
def TX8_init_25 : List UInt8 := 188 :: 10 :: TX8_init_27
def TX8_init_24 : List UInt8 := 6 :: TX8_init_25
def TX8_init_23 : List UInt8 := 42 :: TX8_init_24
def TX8_init_20 : List UInt8 := 181 :: 0 :: 9 :: TX8_init_23
def TX8_init_19 : List UInt8 := 79 :: TX8_init_20
def TX8_init_18 : List UInt8 := 5 :: TX8_init_19
def TX8_init_17 : List UInt8 := 5 :: TX8_init_18
def TX8_init_16 : List UInt8 := 89 :: TX8_init_17
def TX8_init_15 : List UInt8 := 79 :: TX8_init_16
def TX8_init_14 : List UInt8 := 5 :: TX8_init_15
def TX8_init_13 : List UInt8 := 4 :: TX8_init_14
def TX8_init_12 : List UInt8 := 89 :: TX8_init_13
def TX8_init_11 : List UInt8 := 79 :: TX8_init_12
def TX8_init_10 : List UInt8 := 5 :: TX8_init_11
def TX8_init_9 : List UInt8 := 3 :: TX8_init_10
def TX8_init_8 : List UInt8 := 89 :: TX8_init_9
def TX8_init_6 : List UInt8 := 188 :: 10 :: TX8_init_8
def TX8_init_5 : List UInt8 := 6 :: TX8_init_6
def TX8_init_4 : List UInt8 := 42 :: TX8_init_5
def TX8_init_1 : List UInt8 := 183 :: 0 :: 3 :: TX8_init_4
def TX8_init_0 : List UInt8 := 42 :: TX8_init_1
theorem DX8_init_0 : cX8_init.data.toList.drop 0 = TX8_init_0 := by decide +kernel
theorem DX8_init_1 : cX8_init.data.toList.drop 1 = TX8_init_1 := dr1 DX8_init_0
theorem DX8_init_4 : cX8_init.data.toList.drop 4 = TX8_init_4 := dr3 DX8_init_1
theorem DX8_init_5 : cX8_init.data.toList.drop 5 = TX8_init_5 := dr1 DX8_init_4
theorem DX8_init_6 : cX8_init.data.toList.drop 6 = TX8_init_6 := dr1 DX8_init_5
theorem DX8_init_8 : cX8_init.data.toList.drop 8 = TX8_init_8 := dr2 DX8_init_6
theorem DX8_init_9 : cX8_init.data.toList.drop 9 = TX8_init_9 := dr1 DX8_init_8
theorem DX8_init_10 : cX8_init.data.toList.drop 10 = TX8_init_10 := dr1 DX8_init_9
theorem DX8_init_11 : cX8_init.data.toList.drop 11 = TX8_init_11 := dr1 DX8_init_10
theorem DX8_init_12 : cX8_init.data.toList.drop 12 = TX8_init_12 := dr1 DX8_init_11
theorem DX8_init_13 : cX8_init.data.toList.drop 13 = TX8_init_13 := dr1 DX8_init_12
theorem DX8_init_14 : cX8_init.data.toList.drop 14 = TX8_init_14 := dr1 DX8_init_13
theorem DX8_init_15 : cX8_init.data.toList.drop 15 = TX8_init_15 := dr1 DX8_init_14
theorem DX8_init_16 : cX8_init.data.toList.drop 16 = TX8_init_16 := dr1 DX8_init_15
theorem DX8_init_17 : cX8_init.data.toList.drop 17 = TX8_init_17 := dr1 DX8_init_16
theorem DX8_init_18 : cX8_init.data.toList.drop 18 = TX8_init_18 := dr1 DX8_init_17
theorem DX8_init_19 : cX8_init.data.toList.drop 19 = TX8_init_19 := dr1 DX8_init_18
theorem DX8_init_20 : cX8_init.data.toList.drop 20 = TX8_init_20 := dr1 DX8_init_19
theorem DX8_init_23 : cX8_init.data.toList.drop 23 = TX8_init_23 := dr3 DX8_init_20
theorem DX8_init_24 : cX8_init.data.toList.drop 24 = TX8_init_24 := dr1 DX8_init_23
theorem DX8_init_25 : cX8_init.data.toList.drop 25 = TX8_init_25 := dr1 DX8_init_24
theorem DX8_init_27 : cX8_init.data.toList.drop 27 = TX8_init_27 := dr2 DX8_init_25
theorem DX8_init_30 : cX8_init.data.toList.drop 30 = TX8_init_30 := dr3 DX8_init_27
theorem DX8_init_31 : cX8_init.data.toList.drop 31 = TX8_init_31 := dr1 DX8_init_30
theorem DX8_init_32 : cX8_init.data.toList.drop 32 = TX8_init_32 := dr1 DX8_init_31
theorem DX8_init_34 : cX8_init.data.toList.drop 34 = TX8_init_34 := dr2 DX8_init_32
theorem DX8_init_35 : cX8_init.data.toList.drop 35 = TX8_init_35 := dr1 DX8_init_34
theorem DX8_init_36 : cX8_init.data.toList.drop 36 = TX8_init_36 := dr1 DX8_init_35
theorem DX8_init_37 : cX8_init.data.toList.drop 37 = TX8_init_37 := dr1 DX8_init_36
theorem DX8_init_38 : cX8_init.data.toList.drop 38 = TX8_init_38 := dr1 DX8_init_37
theorem DX8_init_39 : cX8_init.data.toList.drop 39 = TX8_init_39 := dr1 DX8_init_38
theorem DX8_init_40 : cX8_init.data.toList.drop 40 = TX8_init_40 := dr1 DX8_init_39
theorem DX8_init_41 : cX8_init.data.toList.drop 41 = TX8_init_41 := dr1 DX8_init_40
theorem DX8_init_42 : cX8_init.data.toList.drop 42 = TX8_init_42 := dr1 DX8_init_41
theorem DX8_init_43 : cX8_init.data.toList.drop 43 = TX8_init_43 := dr1 DX8_init_42
theorem DX8_init_44 : cX8_init.data.toList.drop 44 = TX8_init_44 := dr1 DX8_init_43
theorem DX8_init_45 : cX8_init.data.toList.drop 45 = TX8_init_45 := dr1 DX8_init_44
theorem DX8_init_46 : cX8_init.data.toList.drop 46 = TX8_init_46 := dr1 DX8_init_45
theorem DX8_init_49 : cX8_init.data.toList.drop 49 = TX8_init_49 := dr3 DX8_init_46
theorem DX8_init_50 : cX8_init.data.toList.drop 50 = TX8_init_50 := dr1 DX8_init_49
theorem DX8_init_51 : cX8_init.data.toList.drop 51 = TX8_init_51 := dr1 DX8_init_50
theorem DX8_init_54 : cX8_init.data.toList.drop 54 = TX8_init_54 := dr3 DX8_init_51
theorem DX8_init_55 : cX8_init.data.toList.drop 55 = TX8_init_55 := dr1 DX8_init_54
theorem DX8_init_56 : cX8_init.data.toList.drop 56 = TX8_init_56 := dr1 DX8_init_55
theorem DX8_init_57 : cX8_init.data.toList.drop 57 = TX8_init_57 := dr1 DX8_init_56
theorem DX8_init_60 : cX8_init.data.toList.drop 60 = TX8_init_60 := dr3 DX8_init_57
theorem DX8_init_61 : cX8_init.data.toList.drop 61 = TX8_init_61 := dr1 DX8_init_60
theorem DX8_init_62 : cX8_init.data.toList.drop 62 = TX8_init_62 := dr1 DX8_init_61
theorem DX8_init_63 : cX8_init.data.toList.drop 63 = TX8_init_63 := dr1 DX8_init_62
theorem DX8_init_64 : cX8_init.data.toList.drop 64 = TX8_init_64 := dr1 DX8_init_63
theorem DX8_init_67 : cX8_init.data.toList.drop 67 = TX8_init_67 := dr3 DX8_init_64
theorem DX8_init_68 : cX8_init.data.toList.drop 68 = TX8_init_68 := dr1 DX8_init_67
theorem DX8_init_69 : cX8_init.data.toList.drop 69 = TX8_init_69 := dr1 DX8_init_68
theorem DX8_init_70 : cX8_init.data.toList.drop 70 = TX8_init_70 := dr1 DX8_init_69
theorem DX8_init_71 : cX8_init.data.toList.drop 71 = TX8_init_71 := dr1 DX8_init_70
theorem DX8_init_74 : cX8_init.data.toList.drop 74 = TX8_init_74 := dr3 DX8_init_71
theorem DX8_init_75 : cX8_init.data.toList.drop 75 = TX8_init_75 := dr1 DX8_init_74
theorem DX8_init_78 : cX8_init.data.toList.drop 78 = TX8_init_78 := dr3 DX8_init_75
theorem DX8_init_79 : cX8_init.data.toList.drop 79 = TX8_init_79 := dr1 DX8_init_78
theorem DX8_init_80 : cX8_init.data.toList.drop 80 = TX8_init_80 := dr1 DX8_init_79
theorem DX8_init_83 : cX8_init.data.toList.drop 83 = TX8_init_83 := dr3 DX8_init_80
theorem DX8_init_84 : cX8_init.data.toList.drop 84 = TX8_init_84 := dr1 DX8_init_83
theorem DX8_init_85 : cX8_init.data.toList.drop 85 = TX8_init_85 := dr1 DX8_init_84
theorem DX8_init_86 : cX8_init.data.toList.drop 86 = TX8_init_86 := dr1 DX8_init_85
theorem DX8_init_89 : cX8_init.data.toList.drop 89 = TX8_init_89 := dr3 DX8_init_86
theorem DX8_init_90 : cX8_init.data.toList.drop 90 = TX8_init_90 := dr1 DX8_init_89
theorem DX8_init_91 : cX8_init.data.toList.drop 91 = TX8_init_91 := dr1 DX8_init_90
theorem DX8_init_92 : cX8_init.data.toList.drop 92 = TX8_init_92 := dr1 DX8_init_91
theorem DX8_init_93 : cX8_init.data.toList.drop 93 = TX8_init_93 := dr1 DX8_init_92
theorem DX8_init_96 : cX8_init.data.toList.drop 96 = TX8_init_96 := dr3 DX8_init_93
theorem DX8_init_97 : cX8_init.data.toList.drop 97 = TX8_init_97 := dr1 DX8_init_96
theorem DX8_init_98 : cX8_init.data.toList.drop 98 = TX8_init_98 := dr1 DX8_init_97
theorem DX8_init_99 : cX8_init.data.toList.drop 99 = TX8_init_99 := dr1 DX8_init_98
theorem DX8_init_100 : cX8_init.data.toList.drop 100 = TX8_init_100 := dr1 DX8_init_99
theorem DX8_init_103 : cX8_init.data.toList.drop 103 = TX8_init_103 := dr3 DX8_init_100
theorem DX8_init_104 : cX8_init.data.toList.drop 104 = TX8_init_104 := dr1 DX8_init_103
theorem DX8_init_107 : cX8_init.data.toList.drop 107 = TX8_init_107 := dr3 DX8_init_104
theorem DX8_init_108 : cX8_init.data.toList.drop 108 = TX8_init_108 := dr1 DX8_init_107
theorem DX8_init_109 : cX8_init.data.toList.drop 109 = TX8_init_109 := dr1 DX8_init_108
theorem DX8_init_112 : cX8_init.data.toList.drop 112 = TX8_init_112 := dr3 DX8_init_109
theorem DX8_init_113 : cX8_init.data.toList.drop 113 = TX8_init_113 := dr1 DX8_init_112
theorem DX8_init_114 : cX8_init.data.toList.drop 114 = TX8_init_114 := dr1 DX8_init_113
theorem DX8_init_115 : cX8_init.data.toList.drop 115 = TX8_init_115 := dr1 DX8_init_114
theorem DX8_init_118 : cX8_init.data.toList.drop 118 = TX8_init_118 := dr3 DX8_init_115
theorem DX8_init_119 : cX8_init.data.toList.drop 119 = TX8_init_119 := dr1 DX8_init_118
theorem DX8_init_120 : cX8_init.data.toList.drop 120 = TX8_init_120 := dr1 DX8_init_119
theorem DX8_init_121 : cX8_init.data.toList.drop 121 = TX8_init_121 := dr1 DX8_init_120
theorem DX8_init_122 : cX8_init.data.toList.drop 122 = TX8_init_122 := dr1 DX8_init_121
theorem DX8_init_125 : cX8_init.data.toList.drop 125 = TX8_init_125 := dr3 DX8_init_122
theorem DX8_init_126 : cX8_init.data.toList.drop 126 = TX8_init_126 := dr1 DX8_init_125
theorem DX8_init_127 : cX8_init.data.toList.drop 127 = TX8_init_127 := dr1 DX8_init_126
theorem DX8_init_128 : cX8_init.data.toList.drop 128 = TX8_init_128 := dr1 DX8_init_127
theorem DX8_init_129 : cX8_init.data.toList.drop 129 = TX8_init_129 := dr1 DX8_init_128
theorem DX8_init_132 : cX8_init.data.toList.drop 132 = TX8_init_132 := dr3 DX8_init_129
theorem DX8_init_133 : cX8_init.data.toList.drop 133 = TX8_init_133 := dr1 DX8_init_132
theorem DX8_init_136 : cX8_init.data.toList.drop 136 = TX8_init_136 := dr3 DX8_init_133
theorem DX8_init_137 : cX8_init.data.toList.drop 137 = TX8_init_137 := dr1 DX8_init_136
theorem DX8_init_138 : cX8_init.data.toList.drop 138 = TX8_init_138 := dr1 DX8_init_137
theorem DX8_init_140 : cX8_init.data.toList.drop 140 = TX8_init_140 := dr2 DX8_init_138
theorem DX8_init_143 : cX8_init.data.toList.drop 143 = TX8_init_143 := dr3 DX8_init_140
theorem dX8_init_0 : decode cX8_init 0 = .ok (.aload_n 0, 1) := do_2a DX8_init_0
theorem dX8_init_1 : decode cX8_init 1 = .ok (.invokespecial 3, 3) := do_b7 DX8_init_1
theorem dX8_init_4 : decode cX8_init 4 = .ok (.aload_n 0, 1) := do_2a DX8_init_4
theorem dX8_init_5 : decode cX8_init 5 = .ok (.iconst 3, 1) := do_06 DX8_init_5
theorem dX8_init_6 : decode cX8_init 6 = .ok (.newarray .int, 2) := by decide +kernel
theorem dX8_init_8 : decode cX8_init 8 = .ok (.dup, 1) := do_59 DX8_init_8
theorem dX8_init_9 : decode cX8_init 9 = .ok (.iconst 0, 1) := do_03 DX8_init_9
theorem dX8_init_10 : decode cX8_init 10 = .ok (.iconst 2, 1) := do_05 DX8_init_10
theorem dX8_init_11 : decode cX8_init 11 = .ok (.iastore, 1) := do_4f DX8_init_11
theorem dX8_init_12 : decode cX8_init 12 = .ok (.dup, 1) := do_59 DX8_init_12
theorem dX8_init_13 : decode cX8_init 13 = .ok (.iconst 1, 1) := do_04 DX8_init_13
theorem dX8_init_14 : decode cX8_init 14 = .ok (.iconst 2, 1) := do_05 DX8_init_14
theorem dX8_init_15 : decode cX8_init 15 = .ok (.iastore, 1) := do_4f DX8_init_15
theorem dX8_init_16 : decode cX8_init 16 = .ok (.dup, 1) := do_59 DX8_init_16
theorem dX8_init_17 : decode cX8_init 17 = .ok (.iconst 2, 1) := do_05 DX8_init_17
theorem dX8_init_18 : decode cX8_init 18 = .ok (.iconst 2, 1) := do_05 DX8_init_18
theorem dX8_init_19 : decode cX8_init 19 = .ok (.iastore, 1) := do_4f DX8_init_19
theorem dX8_init_20 : decode cX8_init 20 = .ok (.putfield 9, 3) := do_b5 DX8_init_20
theorem dX8_init_23 : decode cX8_init 23 = .ok (.aload_n 0, 1) := do_2a DX8_init_23
theorem dX8_init_24 : decode cX8_init 24 = .ok (.iconst 3, 1) := do_06 DX8_init_24
theorem dX8_init_25 : decode cX8_init 25 = .ok (.newarray .int, 2) := by decide +kernel
theorem dX8_init_27 : decode cX8_init 27 = .ok (.putfield 13, 3) := do_b5 DX8_init_27
theorem dX8_init_30 : decode cX8_init 30 = .ok (.aload_n 0, 1) := do_2a DX8_init_30
theorem dX8_init_31 : decode cX8_init 31 = .ok (.iconst 3, 1) := do_06 DX8_init_31
theorem dX8_init_32 : decode cX8_init 32 = .ok (.newarray .int, 2) := by decide +kernel
theorem dX8_init_34 : decode cX8_init 34 = .ok (.dup, 1) := do_59 DX8_init_34
theorem dX8_init_35 : decode cX8_init 35 = .ok (.iconst 0, 1) := do_03 DX8_init_35
theorem dX8_init_36 : decode cX8_init 36 = .ok (.iconst 2, 1) := do_05 DX8_init_36
theorem dX8_init_37 : decode cX8_init 37 = .ok (.iastore, 1) := do_4f DX8_init_37
theorem dX8_init_38 : decode cX8_init 38 = .ok (.dup, 1) := do_59 DX8_init_38
theorem dX8_init_39 : decode cX8_init 39 = .ok (.iconst 1, 1) := do_04 DX8_init_39
theorem dX8_init_40 : decode cX8_init 40 = .ok (.iconst 2, 1) := do_05 DX8_init_40
theorem dX8_init_41 : decode cX8_init 41 = .ok (.iastore, 1) := do_4f DX8_init_41
theorem dX8_init_42 : decode cX8_init 42 = .ok (.dup, 1) := do_59 DX8_init_42
theorem dX8_init_43 : decode cX8_init 43 = .ok (.iconst 2, 1) := do_05 DX8_init_43
theorem dX8_init_44 : decode cX8_init 44 = .ok (.iconst 2, 1) := do_05 DX8_init_44
theorem dX8_init_45 : decode cX8_init 45 = .ok (.iastore, 1) := do_4f DX8_init_45
theorem dX8_init_46 : decode cX8_init 46 = .ok (.putfield 16, 3) := do_b5 DX8_init_46
theorem dX8_init_49 : decode cX8_init 49 = .ok (.aload_n 0, 1) := do_2a DX8_init_49
theorem dX8_init_50 : decode cX8_init 50 = .ok (.iconst 3, 1) := do_06 DX8_init_50
theorem dX8_init_51 : decode cX8_init 51 = .ok (.anewarray 19, 3) := by decide +kernel
theorem dX8_init_54 : decode cX8_init 54 = .ok (.dup, 1) := do_59 DX8_init_54
theorem dX8_init_55 : decode cX8_init 55 = .ok (.iconst 0, 1) := do_03 DX8_init_55
theorem dX8_init_56 : decode cX8_init 56 = .ok (.lconst 1, 1) := do_0a DX8_init_56
theorem dX8_init_57 : decode cX8_init 57 = .ok (.invokestatic 20, 3) := do_b8 DX8_init_57
theorem dX8_init_60 : decode cX8_init 60 = .ok (.aastore, 1) := do_53 DX8_init_60
theorem dX8_init_61 : decode cX8_init 61 = .ok (.dup, 1) := do_59 DX8_init_61
theorem dX8_init_62 : decode cX8_init 62 = .ok (.iconst 1, 1) := do_04 DX8_init_62
theorem dX8_init_63 : decode cX8_init 63 = .ok (.lconst 1, 1) := do_0a DX8_init_63
theorem dX8_init_64 : decode cX8_init 64 = .ok (.invokestatic 20, 3) := do_b8 DX8_init_64
theorem dX8_init_67 : decode cX8_init 67 = .ok (.aastore, 1) := do_53 DX8_init_67
theorem dX8_init_68 : decode cX8_init 68 = .ok (.dup, 1) := do_59 DX8_init_68
theorem dX8_init_69 : decode cX8_init 69 = .ok (.iconst 2, 1) := do_05 DX8_init_69
theorem dX8_init_70 : decode cX8_init 70 = .ok (.lconst 1, 1) := do_0a DX8_init_70
theorem dX8_init_71 : decode cX8_init 71 = .ok (.invokestatic 20, 3) := do_b8 DX8_init_71
theorem dX8_init_74 : decode cX8_init 74 = .ok (.aastore, 1) := do_53 DX8_init_74
theorem dX8_init_75 : decode cX8_init 75 = .ok (.putfield 24, 3) := do_b5 DX8_init_75
theorem dX8_init_78 : decode cX8_init 78 = .ok (.aload_n 0, 1) := do_2a DX8_init_78
theorem dX8_init_79 : decode cX8_init 79 = .ok (.iconst 3, 1) := do_06 DX8_init_79
theorem dX8_init_80 : decode cX8_init 80 = .ok (.anewarray 19, 3) := by decide +kernel
theorem dX8_init_83 : decode cX8_init 83 = .ok (.dup, 1) := do_59 DX8_init_83
theorem dX8_init_84 : decode cX8_init 84 = .ok (.iconst 0, 1) := do_03 DX8_init_84
theorem dX8_init_85 : decode cX8_init 85 = .ok (.lconst 0, 1) := do_09 DX8_init_85
theorem dX8_init_86 : decode cX8_init 86 = .ok (.invokestatic 20, 3) := do_b8 DX8_init_86
theorem dX8_init_89 : decode cX8_init 89 = .ok (.aastore, 1) := do_53 DX8_init_89
theorem dX8_init_90 : decode cX8_init 90 = .ok (.dup, 1) := do_59 DX8_init_90
theorem dX8_init_91 : decode cX8_init 91 = .ok (.iconst 1, 1) := do_04 DX8_init_91
theorem dX8_init_92 : decode cX8_init 92 = .ok (.lconst 0, 1) := do_09 DX8_init_92
theorem dX8_init_93 : decode cX8_init 93 = .ok (.invokestatic 20, 3) := do_b8 DX8_init_93
theorem dX8_init_96 : decode cX8_init 96 = .ok (.aastore, 1) := do_53 DX8_init_96
theorem dX8_init_97 : decode cX8_init 97 = .ok (.dup, 1) := do_59 DX8_init_97
theorem dX8_init_98 : decode cX8_init 98 = .ok (.iconst 2, 1) := do_05 DX8_init_98
theorem dX8_init_99 : decode cX8_init 99 = .ok (.lconst 0, 1) := do_09 DX8_init_99
theorem dX8_init_100 : decode cX8_init 100 = .ok (.invokestatic 20, 3) := do_b8 DX8_init_100
theorem dX8_init_103 : decode cX8_init 103 = .ok (.aastore, 1) := do_53 DX8_init_103
theorem dX8_init_104 : decode cX8_init 104 = .ok (.putfield 28, 3) := do_b5 DX8_init_104
theorem dX8_init_107 : decode cX8_init 107 = .ok (.aload_n 0, 1) := do_2a DX8_init_107
theorem dX8_init_108 : decode cX8_init 108 = .ok (.iconst 3, 1) := do_06 DX8_init_108
theorem dX8_init_109 : decode cX8_init 109 = .ok (.anewarray 19, 3) := by decide +kernel
theorem dX8_init_112 : decode cX8_init 112 = .ok (.dup, 1) := do_59 DX8_init_112
theorem dX8_init_113 : decode cX8_init 113 = .ok (.iconst 0, 1) := do_03 DX8_init_113
theorem dX8_init_114 : decode cX8_init 114 = .ok (.iconst 5, 1) := do_08 DX8_init_114
theorem dX8_init_115 : decode cX8_init 115 = .ok (.invokestatic 31, 3) := do_b8 DX8_init_115
theorem dX8_init_118 : decode cX8_init 118 = .ok (.aastore, 1) := do_53 DX8_init_118
theorem dX8_init_119 : decode cX8_init 119 = .ok (.dup, 1) := do_59 DX8_init_119
theorem dX8_init_120 : decode cX8_init 120 = .ok (.iconst 1, 1) := do_04 DX8_init_120
theorem dX8_init_121 : decode cX8_init 121 = .ok (.iconst 5, 1) := do_08 DX8_init_121
theorem dX8_init_122 : decode cX8_init 122 = .ok (.invokestatic 31, 3) := do_b8 DX8_init_122
theorem dX8_init_125 : decode cX8_init 125 = .ok (.aastore, 1) := do_53 DX8_init_125
theorem dX8_init_126 : decode cX8_init 126 = .ok (.dup, 1) := do_59 DX8_init_126
theorem dX8_init_127 : decode cX8_init 127 = .ok (.iconst 2, 1) := do_05 DX8_init_127
theorem dX8_init_128 : decode cX8_init 128 = .ok (.iconst 5, 1) := do_08 DX8_init_128
theorem dX8_init_129 : decode cX8_init 129 = .ok (.invokestatic 31, 3) := do_b8 DX8_init_129
theorem dX8_init_132 : decode cX8_init 132 = .ok (.aastore, 1) := do_53 DX8_init_132
theorem dX8_init_133 : decode cX8_init 133 = .ok (.putfield 35, 3) := do_b5 DX8_init_133
theorem dX8_init_136 : decode cX8_init 136 = .ok (.aload_n 0, 1) := do_2a DX8_init_136
theorem dX8_init_137 : decode cX8_init 137 = .ok (.iconst 5, 1) := do_08 DX8_init_137
theorem dX8_init_138 : decode cX8_init 138 = .ok (.newarray .int, 2) := by decide +kernel
theorem dX8_init_140 : decode cX8_init 140 = .ok (.putfield 38, 3) := do_b5 DX8_init_140
theorem dX8_init_143 : decode cX8_init 143 = .ok (.return_, 1) := do_b1 DX8_init_143
def TX8_thrown_5 : List UInt8 := []
def TX8_thrown_4 : List UInt8 := 172 :: TX8_thrown_5
def TX8_thrown_1 : List UInt8 := 180 :: 0 :: 41 :: TX8_thrown_4
def TX8_thrown_0 : List UInt8 := 42 :: TX8_thrown_1
theorem DX8_thrown_0 : cX8_thrown.data.toList.drop 0 = TX8_thrown_0 := by decide +kernel
theorem DX8_thrown_1 : cX8_thrown.data.toList.drop 1 = TX8_thrown_1 := dr1 DX8_thrown_0
theorem DX8_thrown_4 : cX8_thrown.data.toList.drop 4 = TX8_thrown_4 := dr3 DX8_thrown_1
theorem dX8_thrown_0 : decode cX8_thrown 0 = .ok (.aload_n 0, 1) := do_2a DX8_thrown_0
theorem dX8_thrown_1 : decode cX8_thrown 1 = .ok (.getfield 41, 3) := do_b4 DX8_thrown_1
theorem dX8_thrown_4 : decode cX8_thrown 4 = .ok (.ireturn, 1) := do_ac DX8_thrown_4
def TX8_refuse_29 : List UInt8 := []
def TX8_refuse_28 : List UInt8 := 172 :: TX8_refuse_29
def TX8_refuse_27 : List UInt8 := 3 :: TX8_refuse_28
def TX8_refuse_24 : List UInt8 := 167 :: 0 :: 4 :: TX8_refuse_27
def TX8_refuse_23 : List UInt8 := 4 :: TX8_refuse_24
def TX8_refuse_20 : List UInt8 := 158 :: 0 :: 7 :: TX8_refuse_23
def TX8_refuse_17 : List UInt8 := 180 :: 0 :: 41 :: TX8_refuse_20
def TX8_refuse_16 : List UInt8 := 42 :: TX8_refuse_17
def TX8_refuse_13 : List UInt8 := 181 :: 0 :: 41 :: TX8_refuse_16
def TX8_refuse_12 : List UInt8 := 28 :: TX8_refuse_13
def TX8_refuse_11 : List UInt8 := 42 :: TX8_refuse_12
def TX8_refuse_8 : List UInt8 := 154 :: 0 :: 8 :: TX8_refuse_11
def TX8_refuse_5 : List UInt8 := 180 :: 0 :: 41 :: TX8_refuse_8
def TX8_refuse_4 : List UInt8 := 42 :: TX8_refuse_5
def TX8_refuse_1 : List UInt8 := 153 :: 0 :: 15 :: TX8_refuse_4
def TX8_refuse_0 : List UInt8 := 27 :: TX8_refuse_1
theorem DX8_refuse_0 : cX8_refuse.data.toList.drop 0 = TX8_refuse_0 := by decide +kernel
theorem DX8_refuse_1 : cX8_refuse.data.toList.drop 1 = TX8_refuse_1 := dr1 DX8_refuse_0
theorem DX8_refuse_4 : cX8_refuse.data.toList.drop 4 = TX8_refuse_4 := dr3 DX8_refuse_1
theorem DX8_refuse_5 : cX8_refuse.data.toList.drop 5 = TX8_refuse_5 := dr1 DX8_refuse_4
theorem DX8_refuse_8 : cX8_refuse.data.toList.drop 8 = TX8_refuse_8 := dr3 DX8_refuse_5
theorem DX8_refuse_11 : cX8_refuse.data.toList.drop 11 = TX8_refuse_11 := dr3 DX8_refuse_8
theorem DX8_refuse_12 : cX8_refuse.data.toList.drop 12 = TX8_refuse_12 := dr1 DX8_refuse_11
theorem DX8_refuse_13 : cX8_refuse.data.toList.drop 13 = TX8_refuse_13 := dr1 DX8_refuse_12
theorem DX8_refuse_16 : cX8_refuse.data.toList.drop 16 = TX8_refuse_16 := dr3 DX8_refuse_13
theorem DX8_refuse_17 : cX8_refuse.data.toList.drop 17 = TX8_refuse_17 := dr1 DX8_refuse_16
theorem DX8_refuse_20 : cX8_refuse.data.toList.drop 20 = TX8_refuse_20 := dr3 DX8_refuse_17
theorem DX8_refuse_23 : cX8_refuse.data.toList.drop 23 = TX8_refuse_23 := dr3 DX8_refuse_20
theorem DX8_refuse_24 : cX8_refuse.data.toList.drop 24 = TX8_refuse_24 := dr1 DX8_refuse_23
theorem DX8_refuse_27 : cX8_refuse.data.toList.drop 27 = TX8_refuse_27 := dr3 DX8_refuse_24
theorem DX8_refuse_28 : cX8_refuse.data.toList.drop 28 = TX8_refuse_28 := dr1 DX8_refuse_27
theorem dX8_refuse_0 : decode cX8_refuse 0 = .ok (.iload_n 1, 1) := do_1b DX8_refuse_0
theorem dX8_refuse_1 : decode cX8_refuse 1 = .ok (.ifCond .eq 15, 3) := do_99 DX8_refuse_1 (by decide +kernel)
theorem dX8_refuse_4 : decode cX8_refuse 4 = .ok (.aload_n 0, 1) := do_2a DX8_refuse_4
theorem dX8_refuse_5 : decode cX8_refuse 5 = .ok (.getfield 41, 3) := do_b4 DX8_refuse_5
theorem dX8_refuse_8 : decode cX8_refuse 8 = .ok (.ifCond .ne 8, 3) := do_9a DX8_refuse_8 (by decide +kernel)
theorem dX8_refuse_11 : decode cX8_refuse 11 = .ok (.aload_n 0, 1) := do_2a DX8_refuse_11
theorem dX8_refuse_12 : decode cX8_refuse 12 = .ok (.iload_n 2, 1) := do_1c DX8_refuse_12
theorem dX8_refuse_13 : decode cX8_refuse 13 = .ok (.putfield 41, 3) := do_b5 DX8_refuse_13
theorem dX8_refuse_16 : decode cX8_refuse 16 = .ok (.aload_n 0, 1) := do_2a DX8_refuse_16
theorem dX8_refuse_17 : decode cX8_refuse 17 = .ok (.getfield 41, 3) := do_b4 DX8_refuse_17
theorem dX8_refuse_20 : decode cX8_refuse 20 = .ok (.ifCond .le 7, 3) := do_9e DX8_refuse_20 (by decide +kernel)
theorem dX8_refuse_23 : decode cX8_refuse 23 = .ok (.iconst 1, 1) := do_04 DX8_refuse_23
theorem dX8_refuse_24 : decode cX8_refuse 24 = .ok (.goto 4, 3) := do_a7 DX8_refuse_24 (by decide +kernel)
theorem dX8_refuse_27 : decode cX8_refuse 27 = .ok (.iconst 0, 1) := do_03 DX8_refuse_27
theorem dX8_refuse_28 : decode cX8_refuse 28 = .ok (.ireturn, 1) := do_ac DX8_refuse_28
def TX8_start_12 : List UInt8 := []
def TX8_start_11 : List UInt8 := 172 :: TX8_start_12
def TX8_start_8 : List UInt8 := 182 :: 0 :: 45 :: TX8_start_11
def TX8_start_7 : List UInt8 := 28 :: TX8_start_8
def TX8_start_6 : List UInt8 := 27 :: TX8_start_7
def TX8_start_5 : List UInt8 := 42 :: TX8_start_6
def TX8_start_2 : List UInt8 := 181 :: 0 :: 41 :: TX8_start_5
def TX8_start_1 : List UInt8 := 3 :: TX8_start_2
def TX8_start_0 : List UInt8 := 42 :: TX8_start_1
theorem DX8_start_0 : cX8_start.data.toList.drop 0 = TX8_start_0 := by decide +kernel
theorem DX8_start_1 : cX8_start.data.toList.drop 1 = TX8_start_1 := dr1 DX8_start_0
theorem DX8_start_2 : cX8_start.data.toList.drop 2 = TX8_start_2 := dr1 DX8_start_1
theorem DX8_start_5 : cX8_start.data.toList.drop 5 = TX8_start_5 := dr3 DX8_start_2
theorem DX8_start_6 : cX8_start.data.toList.drop 6 = TX8_start_6 := dr1 DX8_start_5
theorem DX8_start_7 : cX8_start.data.toList.drop 7 = TX8_start_7 := dr1 DX8_start_6
theorem DX8_start_8 : cX8_start.data.toList.drop 8 = TX8_start_8 := dr1 DX8_start_7
theorem DX8_start_11 : cX8_start.data.toList.drop 11 = TX8_start_11 := dr3 DX8_start_8
theorem dX8_start_0 : decode cX8_start 0 = .ok (.aload_n 0, 1) := do_2a DX8_start_0
theorem dX8_start_1 : decode cX8_start 1 = .ok (.iconst 0, 1) := do_03 DX8_start_1
theorem dX8_start_2 : decode cX8_start 2 = .ok (.putfield 41, 3) := do_b5 DX8_start_2
theorem dX8_start_5 : decode cX8_start 5 = .ok (.aload_n 0, 1) := do_2a DX8_start_5
theorem dX8_start_6 : decode cX8_start 6 = .ok (.iload_n 1, 1) := do_1b DX8_start_6
theorem dX8_start_7 : decode cX8_start 7 = .ok (.iload_n 2, 1) := do_1c DX8_start_7
theorem dX8_start_8 : decode cX8_start 8 = .ok (.invokevirtual 45, 3) := do_b6 DX8_start_8
theorem dX8_start_11 : decode cX8_start 11 = .ok (.ireturn, 1) := do_ac DX8_start_11
def TX8_isIn_16 : List UInt8 := []
def TX8_isIn_15 : List UInt8 := 172 :: TX8_isIn_16
def TX8_isIn_14 : List UInt8 := 3 :: TX8_isIn_15
def TX8_isIn_11 : List UInt8 := 167 :: 0 :: 4 :: TX8_isIn_14
def TX8_isIn_10 : List UInt8 := 4 :: TX8_isIn_11
def TX8_isIn_7 : List UInt8 := 163 :: 0 :: 7 :: TX8_isIn_10
def TX8_isIn_6 : List UInt8 := 28 :: TX8_isIn_7
def TX8_isIn_5 : List UInt8 := 26 :: TX8_isIn_6
def TX8_isIn_2 : List UInt8 := 161 :: 0 :: 12 :: TX8_isIn_5
def TX8_isIn_1 : List UInt8 := 27 :: TX8_isIn_2
def TX8_isIn_0 : List UInt8 := 26 :: TX8_isIn_1
theorem DX8_isIn_0 : cX8_isIn.data.toList.drop 0 = TX8_isIn_0 := by decide +kernel
theorem DX8_isIn_1 : cX8_isIn.data.toList.drop 1 = TX8_isIn_1 := dr1 DX8_isIn_0
theorem DX8_isIn_2 : cX8_isIn.data.toList.drop 2 = TX8_isIn_2 := dr1 DX8_isIn_1
theorem DX8_isIn_5 : cX8_isIn.data.toList.drop 5 = TX8_isIn_5 := dr3 DX8_isIn_2
theorem DX8_isIn_6 : cX8_isIn.data.toList.drop 6 = TX8_isIn_6 := dr1 DX8_isIn_5
theorem DX8_isIn_7 : cX8_isIn.data.toList.drop 7 = TX8_isIn_7 := dr1 DX8_isIn_6
theorem DX8_isIn_10 : cX8_isIn.data.toList.drop 10 = TX8_isIn_10 := dr3 DX8_isIn_7
theorem DX8_isIn_11 : cX8_isIn.data.toList.drop 11 = TX8_isIn_11 := dr1 DX8_isIn_10
theorem DX8_isIn_14 : cX8_isIn.data.toList.drop 14 = TX8_isIn_14 := dr3 DX8_isIn_11
theorem DX8_isIn_15 : cX8_isIn.data.toList.drop 15 = TX8_isIn_15 := dr1 DX8_isIn_14
theorem dX8_isIn_0 : decode cX8_isIn 0 = .ok (.iload_n 0, 1) := do_1a DX8_isIn_0
theorem dX8_isIn_1 : decode cX8_isIn 1 = .ok (.iload_n 1, 1) := do_1b DX8_isIn_1
theorem dX8_isIn_2 : decode cX8_isIn 2 = .ok (.if_icmp .lt 12, 3) := do_a1 DX8_isIn_2 (by decide +kernel)
theorem dX8_isIn_5 : decode cX8_isIn 5 = .ok (.iload_n 0, 1) := do_1a DX8_isIn_5
theorem dX8_isIn_6 : decode cX8_isIn 6 = .ok (.iload_n 2, 1) := do_1c DX8_isIn_6
theorem dX8_isIn_7 : decode cX8_isIn 7 = .ok (.if_icmp .gt 7, 3) := do_a3 DX8_isIn_7 (by decide +kernel)
theorem dX8_isIn_10 : decode cX8_isIn 10 = .ok (.iconst 1, 1) := do_04 DX8_isIn_10
theorem dX8_isIn_11 : decode cX8_isIn 11 = .ok (.goto 4, 3) := do_a7 DX8_isIn_11 (by decide +kernel)
theorem dX8_isIn_14 : decode cX8_isIn 14 = .ok (.iconst 0, 1) := do_03 DX8_isIn_14
theorem dX8_isIn_15 : decode cX8_isIn 15 = .ok (.ireturn, 1) := do_ac DX8_isIn_15
def TX8_isNo_15 : List UInt8 := []
def TX8_isNo_14 : List UInt8 := 172 :: TX8_isNo_15
def TX8_isNo_13 : List UInt8 := 3 :: TX8_isNo_14
def TX8_isNo_10 : List UInt8 := 167 :: 0 :: 4 :: TX8_isNo_13
def TX8_isNo_9 : List UInt8 := 4 :: TX8_isNo_10
def TX8_isNo_6 : List UInt8 := 154 :: 0 :: 7 :: TX8_isNo_9
def TX8_isNo_3 : List UInt8 := 184 :: 0 :: 49 :: TX8_isNo_6
def TX8_isNo_2 : List UInt8 := 5 :: TX8_isNo_3
def TX8_isNo_1 : List UInt8 := 3 :: TX8_isNo_2
def TX8_isNo_0 : List UInt8 := 26 :: TX8_isNo_1
theorem DX8_isNo_0 : cX8_isNo.data.toList.drop 0 = TX8_isNo_0 := by decide +kernel
theorem DX8_isNo_1 : cX8_isNo.data.toList.drop 1 = TX8_isNo_1 := dr1 DX8_isNo_0
theorem DX8_isNo_2 : cX8_isNo.data.toList.drop 2 = TX8_isNo_2 := dr1 DX8_isNo_1
theorem DX8_isNo_3 : cX8_isNo.data.toList.drop 3 = TX8_isNo_3 := dr1 DX8_isNo_2
theorem DX8_isNo_6 : cX8_isNo.data.toList.drop 6 = TX8_isNo_6 := dr3 DX8_isNo_3
theorem DX8_isNo_9 : cX8_isNo.data.toList.drop 9 = TX8_isNo_9 := dr3 DX8_isNo_6
theorem DX8_isNo_10 : cX8_isNo.data.toList.drop 10 = TX8_isNo_10 := dr1 DX8_isNo_9
theorem DX8_isNo_13 : cX8_isNo.data.toList.drop 13 = TX8_isNo_13 := dr3 DX8_isNo_10
theorem DX8_isNo_14 : cX8_isNo.data.toList.drop 14 = TX8_isNo_14 := dr1 DX8_isNo_13
theorem dX8_isNo_0 : decode cX8_isNo 0 = .ok (.iload_n 0, 1) := do_1a DX8_isNo_0
theorem dX8_isNo_1 : decode cX8_isNo 1 = .ok (.iconst 0, 1) := do_03 DX8_isNo_1
theorem dX8_isNo_2 : decode cX8_isNo 2 = .ok (.iconst 2, 1) := do_05 DX8_isNo_2
theorem dX8_isNo_3 : decode cX8_isNo 3 = .ok (.invokestatic 49, 3) := do_b8 DX8_isNo_3
theorem dX8_isNo_6 : decode cX8_isNo 6 = .ok (.ifCond .ne 7, 3) := do_9a DX8_isNo_6 (by decide +kernel)
theorem dX8_isNo_9 : decode cX8_isNo 9 = .ok (.iconst 1, 1) := do_04 DX8_isNo_9
theorem dX8_isNo_10 : decode cX8_isNo 10 = .ok (.goto 4, 3) := do_a7 DX8_isNo_10 (by decide +kernel)
theorem dX8_isNo_13 : decode cX8_isNo 13 = .ok (.iconst 0, 1) := do_03 DX8_isNo_13
theorem dX8_isNo_14 : decode cX8_isNo 14 = .ok (.ireturn, 1) := do_ac DX8_isNo_14
def TX8_done_12 : List UInt8 := []
def TX8_done_11 : List UInt8 := 172 :: TX8_done_12
def TX8_done_10 : List UInt8 := 28 :: TX8_done_11
def TX8_done_9 : List UInt8 := 79 :: TX8_done_10
def TX8_done_8 : List UInt8 := 96 :: TX8_done_9
def TX8_done_7 : List UInt8 := 4 :: TX8_done_8
def TX8_done_6 : List UInt8 := 46 :: TX8_done_7
def TX8_done_5 : List UInt8 := 92 :: TX8_done_6
def TX8_done_4 : List UInt8 := 27 :: TX8_done_5
def TX8_done_1 : List UInt8 := 180 :: 0 :: 38 :: TX8_done_4
def TX8_done_0 : List UInt8 := 42 :: TX8_done_1
theorem DX8_done_0 : cX8_done.data.toList.drop 0 = TX8_done_0 := by decide +kernel
theorem DX8_done_1 : cX8_done.data.toList.drop 1 = TX8_done_1 := dr1 DX8_done_0
theorem DX8_done_4 : cX8_done.data.toList.drop 4 = TX8_done_4 := dr3 DX8_done_1
theorem DX8_done_5 : cX8_done.data.toList.drop 5 = TX8_done_5 := dr1 DX8_done_4
theorem DX8_done_6 : cX8_done.data.toList.drop 6 = TX8_done_6 := dr1 DX8_done_5
theorem DX8_done_7 : cX8_done.data.toList.drop 7 = TX8_done_7 := dr1 DX8_done_6
theorem DX8_done_8 : cX8_done.data.toList.drop 8 = TX8_done_8 := dr1 DX8_done_7
theorem DX8_done_9 : cX8_done.data.toList.drop 9 = TX8_done_9 := dr1 DX8_done_8
theorem DX8_done_10 : cX8_done.data.toList.drop 10 = TX8_done_10 := dr1 DX8_done_9
theorem DX8_done_11 : cX8_done.data.toList.drop 11 = TX8_done_11 := dr1 DX8_done_10
theorem dX8_done_0 : decode cX8_done 0 = .ok (.aload_n 0, 1) := do_2a DX8_done_0
theorem dX8_done_1 : decode cX8_done 1 = .ok (.getfield 38, 3) := do_b4 DX8_done_1
theorem dX8_done_4 : decode cX8_done 4 = .ok (.iload_n 1, 1) := do_1b DX8_done_4
theorem dX8_done_5 : decode cX8_done 5 = .ok (.dup2, 1) := do_5c DX8_done_5
theorem dX8_done_6 : decode cX8_done 6 = .ok (.iaload, 1) := do_2e DX8_done_6
theorem dX8_done_7 : decode cX8_done 7 = .ok (.iconst 1, 1) := do_04 DX8_done_7
theorem dX8_done_8 : decode cX8_done 8 = .ok (.iadd, 1) := do_60 DX8_done_8
theorem dX8_done_9 : decode cX8_done 9 = .ok (.iastore, 1) := do_4f DX8_done_9
theorem dX8_done_10 : decode cX8_done 10 = .ok (.iload_n 2, 1) := do_1c DX8_done_10
theorem dX8_done_11 : decode cX8_done 11 = .ok (.ireturn, 1) := do_ac DX8_done_11
def TX8_cannot_13 : List UInt8 := []
def TX8_cannot_12 : List UInt8 := 172 :: TX8_cannot_13
def TX8_cannot_10 : List UInt8 := 16 :: 247 :: TX8_cannot_12
def TX8_cannot_9 : List UInt8 := 79 :: TX8_cannot_10
def TX8_cannot_8 : List UInt8 := 96 :: TX8_cannot_9
def TX8_cannot_7 : List UInt8 := 4 :: TX8_cannot_8
def TX8_cannot_6 : List UInt8 := 46 :: TX8_cannot_7
def TX8_cannot_5 : List UInt8 := 92 :: TX8_cannot_6
def TX8_cannot_4 : List UInt8 := 6 :: TX8_cannot_5
def TX8_cannot_1 : List UInt8 := 180 :: 0 :: 38 :: TX8_cannot_4
def TX8_cannot_0 : List UInt8 := 42 :: TX8_cannot_1
theorem DX8_cannot_0 : cX8_cannot.data.toList.drop 0 = TX8_cannot_0 := by decide +kernel
theorem DX8_cannot_1 : cX8_cannot.data.toList.drop 1 = TX8_cannot_1 := dr1 DX8_cannot_0
theorem DX8_cannot_4 : cX8_cannot.data.toList.drop 4 = TX8_cannot_4 := dr3 DX8_cannot_1
theorem DX8_cannot_5 : cX8_cannot.data.toList.drop 5 = TX8_cannot_5 := dr1 DX8_cannot_4
theorem DX8_cannot_6 : cX8_cannot.data.toList.drop 6 = TX8_cannot_6 := dr1 DX8_cannot_5
theorem DX8_cannot_7 : cX8_cannot.data.toList.drop 7 = TX8_cannot_7 := dr1 DX8_cannot_6
theorem DX8_cannot_8 : cX8_cannot.data.toList.drop 8 = TX8_cannot_8 := dr1 DX8_cannot_7
theorem DX8_cannot_9 : cX8_cannot.data.toList.drop 9 = TX8_cannot_9 := dr1 DX8_cannot_8
theorem DX8_cannot_10 : cX8_cannot.data.toList.drop 10 = TX8_cannot_10 := dr1 DX8_cannot_9
theorem DX8_cannot_12 : cX8_cannot.data.toList.drop 12 = TX8_cannot_12 := dr2 DX8_cannot_10
theorem dX8_cannot_0 : decode cX8_cannot 0 = .ok (.aload_n 0, 1) := do_2a DX8_cannot_0
theorem dX8_cannot_1 : decode cX8_cannot 1 = .ok (.getfield 38, 3) := do_b4 DX8_cannot_1
theorem dX8_cannot_4 : decode cX8_cannot 4 = .ok (.iconst 3, 1) := do_06 DX8_cannot_4
theorem dX8_cannot_5 : decode cX8_cannot 5 = .ok (.dup2, 1) := do_5c DX8_cannot_5
theorem dX8_cannot_6 : decode cX8_cannot 6 = .ok (.iaload, 1) := do_2e DX8_cannot_6
theorem dX8_cannot_7 : decode cX8_cannot 7 = .ok (.iconst 1, 1) := do_04 DX8_cannot_7
theorem dX8_cannot_8 : decode cX8_cannot 8 = .ok (.iadd, 1) := do_60 DX8_cannot_8
theorem dX8_cannot_9 : decode cX8_cannot 9 = .ok (.iastore, 1) := do_4f DX8_cannot_9
theorem dX8_cannot_10 : decode cX8_cannot 10 = .ok (.bipush (-9), 2) := do_10 DX8_cannot_10 (by decide +kernel)
theorem dX8_cannot_12 : decode cX8_cannot 12 = .ok (.ireturn, 1) := do_ac DX8_cannot_12
def TX8_of_82 : List UInt8 := []
def TX8_of_81 : List UInt8 := 176 :: TX8_of_82
def TX8_of_78 : List UInt8 := 184 :: 0 :: 55 :: TX8_of_81
def TX8_of_76 : List UInt8 := 25 :: 4 :: TX8_of_78
def TX8_of_75 : List UInt8 := 4 :: TX8_of_76
def TX8_of_72 : List UInt8 := 167 :: 0 :: 4 :: TX8_of_75
def TX8_of_71 : List UInt8 := 2 :: TX8_of_72
def TX8_of_68 : List UInt8 := 156 :: 0 :: 7 :: TX8_of_71
def TX8_of_67 : List UInt8 := 148 :: TX8_of_68
def TX8_of_66 : List UInt8 := 9 :: TX8_of_67
def TX8_of_65 : List UInt8 := 30 :: TX8_of_66
def TX8_of_62 : List UInt8 := 167 :: 255 :: 231 :: TX8_of_65
def TX8_of_59 : List UInt8 := 132 :: 5 :: 1 :: TX8_of_62
def TX8_of_58 : List UInt8 := 65 :: TX8_of_59
def TX8_of_57 : List UInt8 := 123 :: TX8_of_58
def TX8_of_55 : List UInt8 := 16 :: 30 :: TX8_of_57
def TX8_of_54 : List UInt8 := 32 :: TX8_of_55
def TX8_of_53 : List UInt8 := 79 :: TX8_of_54
def TX8_of_52 : List UInt8 := 136 :: TX8_of_53
def TX8_of_51 : List UInt8 := 127 :: TX8_of_52
def TX8_of_48 : List UInt8 := 20 :: 0 :: 53 :: TX8_of_51
def TX8_of_47 : List UInt8 := 32 :: TX8_of_48
def TX8_of_45 : List UInt8 := 21 :: 5 :: TX8_of_47
def TX8_of_43 : List UInt8 := 25 :: 4 :: TX8_of_45
def TX8_of_40 : List UInt8 := 162 :: 0 :: 25 :: TX8_of_43
def TX8_of_39 : List UInt8 := 7 :: TX8_of_40
def TX8_of_37 : List UInt8 := 21 :: 5 :: TX8_of_39
def TX8_of_35 : List UInt8 := 54 :: 5 :: TX8_of_37
def TX8_of_34 : List UInt8 := 4 :: TX8_of_35
def TX8_of_32 : List UInt8 := 58 :: 4 :: TX8_of_34
def TX8_of_31 : List UInt8 := 79 :: TX8_of_32
def TX8_of_30 : List UInt8 := 3 :: TX8_of_31
def TX8_of_29 : List UInt8 := 6 :: TX8_of_30
def TX8_of_28 : List UInt8 := 89 :: TX8_of_29
def TX8_of_27 : List UInt8 := 79 :: TX8_of_28
def TX8_of_26 : List UInt8 := 3 :: TX8_of_27
def TX8_of_25 : List UInt8 := 5 :: TX8_of_26
def TX8_of_24 : List UInt8 := 89 :: TX8_of_25
def TX8_of_23 : List UInt8 := 79 :: TX8_of_24
def TX8_of_22 : List UInt8 := 3 :: TX8_of_23
def TX8_of_21 : List UInt8 := 4 :: TX8_of_22
def TX8_of_20 : List UInt8 := 89 :: TX8_of_21
def TX8_of_19 : List UInt8 := 79 :: TX8_of_20
def TX8_of_18 : List UInt8 := 3 :: TX8_of_19
def TX8_of_17 : List UInt8 := 3 :: TX8_of_18
def TX8_of_16 : List UInt8 := 89 :: TX8_of_17
def TX8_of_14 : List UInt8 := 188 :: 10 :: TX8_of_16
def TX8_of_13 : List UInt8 := 7 :: TX8_of_14
def TX8_of_12 : List UInt8 := 65 :: TX8_of_13
def TX8_of_11 : List UInt8 := 30 :: TX8_of_12
def TX8_of_8 : List UInt8 := 167 :: 0 :: 4 :: TX8_of_11
def TX8_of_7 : List UInt8 := 117 :: TX8_of_8
def TX8_of_6 : List UInt8 := 30 :: TX8_of_7
def TX8_of_3 : List UInt8 := 156 :: 0 :: 8 :: TX8_of_6
def TX8_of_2 : List UInt8 := 148 :: TX8_of_3
def TX8_of_1 : List UInt8 := 9 :: TX8_of_2
def TX8_of_0 : List UInt8 := 30 :: TX8_of_1
theorem DX8_of_0 : cX8_of.data.toList.drop 0 = TX8_of_0 := by decide +kernel
theorem DX8_of_1 : cX8_of.data.toList.drop 1 = TX8_of_1 := dr1 DX8_of_0
theorem DX8_of_2 : cX8_of.data.toList.drop 2 = TX8_of_2 := dr1 DX8_of_1
theorem DX8_of_3 : cX8_of.data.toList.drop 3 = TX8_of_3 := dr1 DX8_of_2
theorem DX8_of_6 : cX8_of.data.toList.drop 6 = TX8_of_6 := dr3 DX8_of_3
theorem DX8_of_7 : cX8_of.data.toList.drop 7 = TX8_of_7 := dr1 DX8_of_6
theorem DX8_of_8 : cX8_of.data.toList.drop 8 = TX8_of_8 := dr1 DX8_of_7
theorem DX8_of_11 : cX8_of.data.toList.drop 11 = TX8_of_11 := dr3 DX8_of_8
theorem DX8_of_12 : cX8_of.data.toList.drop 12 = TX8_of_12 := dr1 DX8_of_11
theorem DX8_of_13 : cX8_of.data.toList.drop 13 = TX8_of_13 := dr1 DX8_of_12
theorem DX8_of_14 : cX8_of.data.toList.drop 14 = TX8_of_14 := dr1 DX8_of_13
theorem DX8_of_16 : cX8_of.data.toList.drop 16 = TX8_of_16 := dr2 DX8_of_14
theorem DX8_of_17 : cX8_of.data.toList.drop 17 = TX8_of_17 := dr1 DX8_of_16
theorem DX8_of_18 : cX8_of.data.toList.drop 18 = TX8_of_18 := dr1 DX8_of_17
theorem DX8_of_19 : cX8_of.data.toList.drop 19 = TX8_of_19 := dr1 DX8_of_18
theorem DX8_of_20 : cX8_of.data.toList.drop 20 = TX8_of_20 := dr1 DX8_of_19
theorem DX8_of_21 : cX8_of.data.toList.drop 21 = TX8_of_21 := dr1 DX8_of_20
theorem DX8_of_22 : cX8_of.data.toList.drop 22 = TX8_of_22 := dr1 DX8_of_21
theorem DX8_of_23 : cX8_of.data.toList.drop 23 = TX8_of_23 := dr1 DX8_of_22
theorem DX8_of_24 : cX8_of.data.toList.drop 24 = TX8_of_24 := dr1 DX8_of_23
theorem DX8_of_25 : cX8_of.data.toList.drop 25 = TX8_of_25 := dr1 DX8_of_24
theorem DX8_of_26 : cX8_of.data.toList.drop 26 = TX8_of_26 := dr1 DX8_of_25
theorem DX8_of_27 : cX8_of.data.toList.drop 27 = TX8_of_27 := dr1 DX8_of_26
theorem DX8_of_28 : cX8_of.data.toList.drop 28 = TX8_of_28 := dr1 DX8_of_27
theorem DX8_of_29 : cX8_of.data.toList.drop 29 = TX8_of_29 := dr1 DX8_of_28
theorem DX8_of_30 : cX8_of.data.toList.drop 30 = TX8_of_30 := dr1 DX8_of_29
theorem DX8_of_31 : cX8_of.data.toList.drop 31 = TX8_of_31 := dr1 DX8_of_30
theorem DX8_of_32 : cX8_of.data.toList.drop 32 = TX8_of_32 := dr1 DX8_of_31
theorem DX8_of_34 : cX8_of.data.toList.drop 34 = TX8_of_34 := dr2 DX8_of_32
theorem DX8_of_35 : cX8_of.data.toList.drop 35 = TX8_of_35 := dr1 DX8_of_34
theorem DX8_of_37 : cX8_of.data.toList.drop 37 = TX8_of_37 := dr2 DX8_of_35
theorem DX8_of_39 : cX8_of.data.toList.drop 39 = TX8_of_39 := dr2 DX8_of_37
theorem DX8_of_40 : cX8_of.data.toList.drop 40 = TX8_of_40 := dr1 DX8_of_39
theorem DX8_of_43 : cX8_of.data.toList.drop 43 = TX8_of_43 := dr3 DX8_of_40
theorem DX8_of_45 : cX8_of.data.toList.drop 45 = TX8_of_45 := dr2 DX8_of_43
theorem DX8_of_47 : cX8_of.data.toList.drop 47 = TX8_of_47 := dr2 DX8_of_45
theorem DX8_of_48 : cX8_of.data.toList.drop 48 = TX8_of_48 := dr1 DX8_of_47
theorem DX8_of_51 : cX8_of.data.toList.drop 51 = TX8_of_51 := dr3 DX8_of_48
theorem DX8_of_52 : cX8_of.data.toList.drop 52 = TX8_of_52 := dr1 DX8_of_51
theorem DX8_of_53 : cX8_of.data.toList.drop 53 = TX8_of_53 := dr1 DX8_of_52
theorem DX8_of_54 : cX8_of.data.toList.drop 54 = TX8_of_54 := dr1 DX8_of_53
theorem DX8_of_55 : cX8_of.data.toList.drop 55 = TX8_of_55 := dr1 DX8_of_54
theorem DX8_of_57 : cX8_of.data.toList.drop 57 = TX8_of_57 := dr2 DX8_of_55
theorem DX8_of_58 : cX8_of.data.toList.drop 58 = TX8_of_58 := dr1 DX8_of_57
theorem DX8_of_59 : cX8_of.data.toList.drop 59 = TX8_of_59 := dr1 DX8_of_58
theorem DX8_of_62 : cX8_of.data.toList.drop 62 = TX8_of_62 := dr3 DX8_of_59
theorem DX8_of_65 : cX8_of.data.toList.drop 65 = TX8_of_65 := dr3 DX8_of_62
theorem DX8_of_66 : cX8_of.data.toList.drop 66 = TX8_of_66 := dr1 DX8_of_65
theorem DX8_of_67 : cX8_of.data.toList.drop 67 = TX8_of_67 := dr1 DX8_of_66
theorem DX8_of_68 : cX8_of.data.toList.drop 68 = TX8_of_68 := dr1 DX8_of_67
theorem DX8_of_71 : cX8_of.data.toList.drop 71 = TX8_of_71 := dr3 DX8_of_68
theorem DX8_of_72 : cX8_of.data.toList.drop 72 = TX8_of_72 := dr1 DX8_of_71
theorem DX8_of_75 : cX8_of.data.toList.drop 75 = TX8_of_75 := dr3 DX8_of_72
theorem DX8_of_76 : cX8_of.data.toList.drop 76 = TX8_of_76 := dr1 DX8_of_75
theorem DX8_of_78 : cX8_of.data.toList.drop 78 = TX8_of_78 := dr2 DX8_of_76
theorem DX8_of_81 : cX8_of.data.toList.drop 81 = TX8_of_81 := dr3 DX8_of_78
theorem dX8_of_0 : decode cX8_of 0 = .ok (.lload_n 0, 1) := do_1e DX8_of_0
theorem dX8_of_1 : decode cX8_of 1 = .ok (.lconst 0, 1) := do_09 DX8_of_1
theorem dX8_of_2 : decode cX8_of 2 = .ok (.lcmp, 1) := do_94 DX8_of_2
theorem dX8_of_3 : decode cX8_of 3 = .ok (.ifCond .ge 8, 3) := do_9c DX8_of_3 (by decide +kernel)
theorem dX8_of_6 : decode cX8_of 6 = .ok (.lload_n 0, 1) := do_1e DX8_of_6
theorem dX8_of_7 : decode cX8_of 7 = .ok (.lneg, 1) := do_75 DX8_of_7
theorem dX8_of_8 : decode cX8_of 8 = .ok (.goto 4, 3) := do_a7 DX8_of_8 (by decide +kernel)
theorem dX8_of_11 : decode cX8_of 11 = .ok (.lload_n 0, 1) := do_1e DX8_of_11
theorem dX8_of_12 : decode cX8_of 12 = .ok (.lstore_n 2, 1) := do_41 DX8_of_12
theorem dX8_of_13 : decode cX8_of 13 = .ok (.iconst 4, 1) := do_07 DX8_of_13
theorem dX8_of_14 : decode cX8_of 14 = .ok (.newarray .int, 2) := by decide +kernel
theorem dX8_of_16 : decode cX8_of 16 = .ok (.dup, 1) := do_59 DX8_of_16
theorem dX8_of_17 : decode cX8_of 17 = .ok (.iconst 0, 1) := do_03 DX8_of_17
theorem dX8_of_18 : decode cX8_of 18 = .ok (.iconst 0, 1) := do_03 DX8_of_18
theorem dX8_of_19 : decode cX8_of 19 = .ok (.iastore, 1) := do_4f DX8_of_19
theorem dX8_of_20 : decode cX8_of 20 = .ok (.dup, 1) := do_59 DX8_of_20
theorem dX8_of_21 : decode cX8_of 21 = .ok (.iconst 1, 1) := do_04 DX8_of_21
theorem dX8_of_22 : decode cX8_of 22 = .ok (.iconst 0, 1) := do_03 DX8_of_22
theorem dX8_of_23 : decode cX8_of 23 = .ok (.iastore, 1) := do_4f DX8_of_23
theorem dX8_of_24 : decode cX8_of 24 = .ok (.dup, 1) := do_59 DX8_of_24
theorem dX8_of_25 : decode cX8_of 25 = .ok (.iconst 2, 1) := do_05 DX8_of_25
theorem dX8_of_26 : decode cX8_of 26 = .ok (.iconst 0, 1) := do_03 DX8_of_26
theorem dX8_of_27 : decode cX8_of 27 = .ok (.iastore, 1) := do_4f DX8_of_27
theorem dX8_of_28 : decode cX8_of 28 = .ok (.dup, 1) := do_59 DX8_of_28
theorem dX8_of_29 : decode cX8_of 29 = .ok (.iconst 3, 1) := do_06 DX8_of_29
theorem dX8_of_30 : decode cX8_of 30 = .ok (.iconst 0, 1) := do_03 DX8_of_30
theorem dX8_of_31 : decode cX8_of 31 = .ok (.iastore, 1) := do_4f DX8_of_31
theorem dX8_of_32 : decode cX8_of 32 = .ok (.astore 4, 2) := do_3a DX8_of_32
theorem dX8_of_34 : decode cX8_of 34 = .ok (.iconst 1, 1) := do_04 DX8_of_34
theorem dX8_of_35 : decode cX8_of 35 = .ok (.istore 5, 2) := do_36 DX8_of_35
theorem dX8_of_37 : decode cX8_of 37 = .ok (.iload 5, 2) := do_15 DX8_of_37
theorem dX8_of_39 : decode cX8_of 39 = .ok (.iconst 4, 1) := do_07 DX8_of_39
theorem dX8_of_40 : decode cX8_of 40 = .ok (.if_icmp .ge 25, 3) := do_a2 DX8_of_40 (by decide +kernel)
theorem dX8_of_43 : decode cX8_of 43 = .ok (.aload 4, 2) := do_19 DX8_of_43
theorem dX8_of_45 : decode cX8_of 45 = .ok (.iload 5, 2) := do_15 DX8_of_45
theorem dX8_of_47 : decode cX8_of 47 = .ok (.lload_n 2, 1) := do_20 DX8_of_47
theorem dX8_of_48 : decode cX8_of 48 = .ok (.ldc2_w 53, 3) := by decide +kernel
theorem dX8_of_51 : decode cX8_of 51 = .ok (.land, 1) := do_7f DX8_of_51
theorem dX8_of_52 : decode cX8_of 52 = .ok (.l2i, 1) := do_88 DX8_of_52
theorem dX8_of_53 : decode cX8_of 53 = .ok (.iastore, 1) := do_4f DX8_of_53
theorem dX8_of_54 : decode cX8_of 54 = .ok (.lload_n 2, 1) := do_20 DX8_of_54
theorem dX8_of_55 : decode cX8_of 55 = .ok (.bipush 30, 2) := do_10 DX8_of_55 (by decide +kernel)
theorem dX8_of_57 : decode cX8_of 57 = .ok (.lshr, 1) := do_7b DX8_of_57
theorem dX8_of_58 : decode cX8_of 58 = .ok (.lstore_n 2, 1) := do_41 DX8_of_58
theorem dX8_of_59 : decode cX8_of 59 = .ok (.iinc 5 1, 3) := do_84 DX8_of_59
theorem dX8_of_62 : decode cX8_of 62 = .ok (.goto (-25), 3) := do_a7 DX8_of_62 (by decide +kernel)
theorem dX8_of_65 : decode cX8_of 65 = .ok (.lload_n 0, 1) := do_1e DX8_of_65
theorem dX8_of_66 : decode cX8_of 66 = .ok (.lconst 0, 1) := do_09 DX8_of_66
theorem dX8_of_67 : decode cX8_of 67 = .ok (.lcmp, 1) := do_94 DX8_of_67
theorem dX8_of_68 : decode cX8_of 68 = .ok (.ifCond .ge 7, 3) := do_9c DX8_of_68 (by decide +kernel)
theorem dX8_of_71 : decode cX8_of 71 = .ok (.iconst (-1), 1) := do_02 DX8_of_71
theorem dX8_of_72 : decode cX8_of 72 = .ok (.goto 4, 3) := do_a7 DX8_of_72 (by decide +kernel)
theorem dX8_of_75 : decode cX8_of 75 = .ok (.iconst 1, 1) := do_04 DX8_of_75
theorem dX8_of_76 : decode cX8_of 76 = .ok (.aload 4, 2) := do_19 DX8_of_76
theorem dX8_of_78 : decode cX8_of 78 = .ok (.invokestatic 55, 3) := do_b8 DX8_of_78
theorem dX8_of_81 : decode cX8_of 81 = .ok (.areturn, 1) := do_b0 DX8_of_81
def TX8_cut_64 : List UInt8 := []
def TX8_cut_63 : List UInt8 := 176 :: TX8_cut_64
def TX8_cut_62 : List UInt8 := 45 :: TX8_cut_63
def TX8_cut_61 : List UInt8 := 79 :: TX8_cut_62
def TX8_cut_60 : List UInt8 := 26 :: TX8_cut_61
def TX8_cut_57 : List UInt8 := 167 :: 0 :: 4 :: TX8_cut_60
def TX8_cut_56 : List UInt8 := 3 :: TX8_cut_57
def TX8_cut_53 : List UInt8 := 160 :: 0 :: 7 :: TX8_cut_56
def TX8_cut_52 : List UInt8 := 4 :: TX8_cut_53
def TX8_cut_51 : List UInt8 := 28 :: TX8_cut_52
def TX8_cut_50 : List UInt8 := 3 :: TX8_cut_51
def TX8_cut_49 : List UInt8 := 45 :: TX8_cut_50
def TX8_cut_46 : List UInt8 := 167 :: 255 :: 239 :: TX8_cut_49
def TX8_cut_43 : List UInt8 := 132 :: 4 :: 1 :: TX8_cut_46
def TX8_cut_42 : List UInt8 := 79 :: TX8_cut_43
def TX8_cut_41 : List UInt8 := 46 :: TX8_cut_42
def TX8_cut_39 : List UInt8 := 21 :: 4 :: TX8_cut_41
def TX8_cut_38 : List UInt8 := 43 :: TX8_cut_39
def TX8_cut_36 : List UInt8 := 21 :: 4 :: TX8_cut_38
def TX8_cut_35 : List UInt8 := 45 :: TX8_cut_36
def TX8_cut_32 : List UInt8 := 162 :: 0 :: 17 :: TX8_cut_35
def TX8_cut_31 : List UInt8 := 28 :: TX8_cut_32
def TX8_cut_29 : List UInt8 := 21 :: 4 :: TX8_cut_31
def TX8_cut_27 : List UInt8 := 54 :: 4 :: TX8_cut_29
def TX8_cut_26 : List UInt8 := 4 :: TX8_cut_27
def TX8_cut_25 : List UInt8 := 78 :: TX8_cut_26
def TX8_cut_23 : List UInt8 := 188 :: 10 :: TX8_cut_25
def TX8_cut_22 : List UInt8 := 28 :: TX8_cut_23
def TX8_cut_19 : List UInt8 := 167 :: 255 :: 240 :: TX8_cut_22
def TX8_cut_16 : List UInt8 := 132 :: 2 :: 255 :: TX8_cut_19
def TX8_cut_13 : List UInt8 := 154 :: 0 :: 9 :: TX8_cut_16
def TX8_cut_12 : List UInt8 := 46 :: TX8_cut_13
def TX8_cut_11 : List UInt8 := 100 :: TX8_cut_12
def TX8_cut_10 : List UInt8 := 4 :: TX8_cut_11
def TX8_cut_9 : List UInt8 := 28 :: TX8_cut_10
def TX8_cut_8 : List UInt8 := 43 :: TX8_cut_9
def TX8_cut_5 : List UInt8 := 164 :: 0 :: 17 :: TX8_cut_8
def TX8_cut_4 : List UInt8 := 4 :: TX8_cut_5
def TX8_cut_3 : List UInt8 := 28 :: TX8_cut_4
def TX8_cut_2 : List UInt8 := 61 :: TX8_cut_3
def TX8_cut_1 : List UInt8 := 190 :: TX8_cut_2
def TX8_cut_0 : List UInt8 := 43 :: TX8_cut_1
theorem DX8_cut_0 : cX8_cut.data.toList.drop 0 = TX8_cut_0 := by decide +kernel
theorem DX8_cut_1 : cX8_cut.data.toList.drop 1 = TX8_cut_1 := dr1 DX8_cut_0
theorem DX8_cut_2 : cX8_cut.data.toList.drop 2 = TX8_cut_2 := dr1 DX8_cut_1
theorem DX8_cut_3 : cX8_cut.data.toList.drop 3 = TX8_cut_3 := dr1 DX8_cut_2
theorem DX8_cut_4 : cX8_cut.data.toList.drop 4 = TX8_cut_4 := dr1 DX8_cut_3
theorem DX8_cut_5 : cX8_cut.data.toList.drop 5 = TX8_cut_5 := dr1 DX8_cut_4
theorem DX8_cut_8 : cX8_cut.data.toList.drop 8 = TX8_cut_8 := dr3 DX8_cut_5
theorem DX8_cut_9 : cX8_cut.data.toList.drop 9 = TX8_cut_9 := dr1 DX8_cut_8
theorem DX8_cut_10 : cX8_cut.data.toList.drop 10 = TX8_cut_10 := dr1 DX8_cut_9
theorem DX8_cut_11 : cX8_cut.data.toList.drop 11 = TX8_cut_11 := dr1 DX8_cut_10
theorem DX8_cut_12 : cX8_cut.data.toList.drop 12 = TX8_cut_12 := dr1 DX8_cut_11
theorem DX8_cut_13 : cX8_cut.data.toList.drop 13 = TX8_cut_13 := dr1 DX8_cut_12
theorem DX8_cut_16 : cX8_cut.data.toList.drop 16 = TX8_cut_16 := dr3 DX8_cut_13
theorem DX8_cut_19 : cX8_cut.data.toList.drop 19 = TX8_cut_19 := dr3 DX8_cut_16
theorem DX8_cut_22 : cX8_cut.data.toList.drop 22 = TX8_cut_22 := dr3 DX8_cut_19
theorem DX8_cut_23 : cX8_cut.data.toList.drop 23 = TX8_cut_23 := dr1 DX8_cut_22
theorem DX8_cut_25 : cX8_cut.data.toList.drop 25 = TX8_cut_25 := dr2 DX8_cut_23
theorem DX8_cut_26 : cX8_cut.data.toList.drop 26 = TX8_cut_26 := dr1 DX8_cut_25
theorem DX8_cut_27 : cX8_cut.data.toList.drop 27 = TX8_cut_27 := dr1 DX8_cut_26
theorem DX8_cut_29 : cX8_cut.data.toList.drop 29 = TX8_cut_29 := dr2 DX8_cut_27
theorem DX8_cut_31 : cX8_cut.data.toList.drop 31 = TX8_cut_31 := dr2 DX8_cut_29
theorem DX8_cut_32 : cX8_cut.data.toList.drop 32 = TX8_cut_32 := dr1 DX8_cut_31
theorem DX8_cut_35 : cX8_cut.data.toList.drop 35 = TX8_cut_35 := dr3 DX8_cut_32
theorem DX8_cut_36 : cX8_cut.data.toList.drop 36 = TX8_cut_36 := dr1 DX8_cut_35
theorem DX8_cut_38 : cX8_cut.data.toList.drop 38 = TX8_cut_38 := dr2 DX8_cut_36
theorem DX8_cut_39 : cX8_cut.data.toList.drop 39 = TX8_cut_39 := dr1 DX8_cut_38
theorem DX8_cut_41 : cX8_cut.data.toList.drop 41 = TX8_cut_41 := dr2 DX8_cut_39
theorem DX8_cut_42 : cX8_cut.data.toList.drop 42 = TX8_cut_42 := dr1 DX8_cut_41
theorem DX8_cut_43 : cX8_cut.data.toList.drop 43 = TX8_cut_43 := dr1 DX8_cut_42
theorem DX8_cut_46 : cX8_cut.data.toList.drop 46 = TX8_cut_46 := dr3 DX8_cut_43
theorem DX8_cut_49 : cX8_cut.data.toList.drop 49 = TX8_cut_49 := dr3 DX8_cut_46
theorem DX8_cut_50 : cX8_cut.data.toList.drop 50 = TX8_cut_50 := dr1 DX8_cut_49
theorem DX8_cut_51 : cX8_cut.data.toList.drop 51 = TX8_cut_51 := dr1 DX8_cut_50
theorem DX8_cut_52 : cX8_cut.data.toList.drop 52 = TX8_cut_52 := dr1 DX8_cut_51
theorem DX8_cut_53 : cX8_cut.data.toList.drop 53 = TX8_cut_53 := dr1 DX8_cut_52
theorem DX8_cut_56 : cX8_cut.data.toList.drop 56 = TX8_cut_56 := dr3 DX8_cut_53
theorem DX8_cut_57 : cX8_cut.data.toList.drop 57 = TX8_cut_57 := dr1 DX8_cut_56
theorem DX8_cut_60 : cX8_cut.data.toList.drop 60 = TX8_cut_60 := dr3 DX8_cut_57
theorem DX8_cut_61 : cX8_cut.data.toList.drop 61 = TX8_cut_61 := dr1 DX8_cut_60
theorem DX8_cut_62 : cX8_cut.data.toList.drop 62 = TX8_cut_62 := dr1 DX8_cut_61
theorem DX8_cut_63 : cX8_cut.data.toList.drop 63 = TX8_cut_63 := dr1 DX8_cut_62
theorem dX8_cut_0 : decode cX8_cut 0 = .ok (.aload_n 1, 1) := do_2b DX8_cut_0
theorem dX8_cut_1 : decode cX8_cut 1 = .ok (.arraylength, 1) := do_be DX8_cut_1
theorem dX8_cut_2 : decode cX8_cut 2 = .ok (.istore_n 2, 1) := do_3d DX8_cut_2
theorem dX8_cut_3 : decode cX8_cut 3 = .ok (.iload_n 2, 1) := do_1c DX8_cut_3
theorem dX8_cut_4 : decode cX8_cut 4 = .ok (.iconst 1, 1) := do_04 DX8_cut_4
theorem dX8_cut_5 : decode cX8_cut 5 = .ok (.if_icmp .le 17, 3) := do_a4 DX8_cut_5 (by decide +kernel)
theorem dX8_cut_8 : decode cX8_cut 8 = .ok (.aload_n 1, 1) := do_2b DX8_cut_8
theorem dX8_cut_9 : decode cX8_cut 9 = .ok (.iload_n 2, 1) := do_1c DX8_cut_9
theorem dX8_cut_10 : decode cX8_cut 10 = .ok (.iconst 1, 1) := do_04 DX8_cut_10
theorem dX8_cut_11 : decode cX8_cut 11 = .ok (.isub, 1) := do_64 DX8_cut_11
theorem dX8_cut_12 : decode cX8_cut 12 = .ok (.iaload, 1) := do_2e DX8_cut_12
theorem dX8_cut_13 : decode cX8_cut 13 = .ok (.ifCond .ne 9, 3) := do_9a DX8_cut_13 (by decide +kernel)
theorem dX8_cut_16 : decode cX8_cut 16 = .ok (.iinc 2 (-1), 3) := do_84 DX8_cut_16
theorem dX8_cut_19 : decode cX8_cut 19 = .ok (.goto (-16), 3) := do_a7 DX8_cut_19 (by decide +kernel)
theorem dX8_cut_22 : decode cX8_cut 22 = .ok (.iload_n 2, 1) := do_1c DX8_cut_22
theorem dX8_cut_23 : decode cX8_cut 23 = .ok (.newarray .int, 2) := by decide +kernel
theorem dX8_cut_25 : decode cX8_cut 25 = .ok (.astore_n 3, 1) := do_4e DX8_cut_25
theorem dX8_cut_26 : decode cX8_cut 26 = .ok (.iconst 1, 1) := do_04 DX8_cut_26
theorem dX8_cut_27 : decode cX8_cut 27 = .ok (.istore 4, 2) := do_36 DX8_cut_27
theorem dX8_cut_29 : decode cX8_cut 29 = .ok (.iload 4, 2) := do_15 DX8_cut_29
theorem dX8_cut_31 : decode cX8_cut 31 = .ok (.iload_n 2, 1) := do_1c DX8_cut_31
theorem dX8_cut_32 : decode cX8_cut 32 = .ok (.if_icmp .ge 17, 3) := do_a2 DX8_cut_32 (by decide +kernel)
theorem dX8_cut_35 : decode cX8_cut 35 = .ok (.aload_n 3, 1) := do_2d DX8_cut_35
theorem dX8_cut_36 : decode cX8_cut 36 = .ok (.iload 4, 2) := do_15 DX8_cut_36
theorem dX8_cut_38 : decode cX8_cut 38 = .ok (.aload_n 1, 1) := do_2b DX8_cut_38
theorem dX8_cut_39 : decode cX8_cut 39 = .ok (.iload 4, 2) := do_15 DX8_cut_39
theorem dX8_cut_41 : decode cX8_cut 41 = .ok (.iaload, 1) := do_2e DX8_cut_41
theorem dX8_cut_42 : decode cX8_cut 42 = .ok (.iastore, 1) := do_4f DX8_cut_42
theorem dX8_cut_43 : decode cX8_cut 43 = .ok (.iinc 4 1, 3) := do_84 DX8_cut_43
theorem dX8_cut_46 : decode cX8_cut 46 = .ok (.goto (-17), 3) := do_a7 DX8_cut_46 (by decide +kernel)
theorem dX8_cut_49 : decode cX8_cut 49 = .ok (.aload_n 3, 1) := do_2d DX8_cut_49
theorem dX8_cut_50 : decode cX8_cut 50 = .ok (.iconst 0, 1) := do_03 DX8_cut_50
theorem dX8_cut_51 : decode cX8_cut 51 = .ok (.iload_n 2, 1) := do_1c DX8_cut_51
theorem dX8_cut_52 : decode cX8_cut 52 = .ok (.iconst 1, 1) := do_04 DX8_cut_52
theorem dX8_cut_53 : decode cX8_cut 53 = .ok (.if_icmp .ne 7, 3) := do_a0 DX8_cut_53 (by decide +kernel)
theorem dX8_cut_56 : decode cX8_cut 56 = .ok (.iconst 0, 1) := do_03 DX8_cut_56
theorem dX8_cut_57 : decode cX8_cut 57 = .ok (.goto 4, 3) := do_a7 DX8_cut_57 (by decide +kernel)
theorem dX8_cut_60 : decode cX8_cut 60 = .ok (.iload_n 0, 1) := do_1a DX8_cut_60
theorem dX8_cut_61 : decode cX8_cut 61 = .ok (.iastore, 1) := do_4f DX8_cut_61
theorem dX8_cut_62 : decode cX8_cut 62 = .ok (.aload_n 3, 1) := do_2d DX8_cut_62
theorem dX8_cut_63 : decode cX8_cut 63 = .ok (.areturn, 1) := do_b0 DX8_cut_63
def TX8_signed_14 : List UInt8 := []
def TX8_signed_13 : List UInt8 := 176 :: TX8_signed_14
def TX8_signed_12 : List UInt8 := 44 :: TX8_signed_13
def TX8_signed_11 : List UInt8 := 79 :: TX8_signed_12
def TX8_signed_10 : List UInt8 := 27 :: TX8_signed_11
def TX8_signed_9 : List UInt8 := 3 :: TX8_signed_10
def TX8_signed_8 : List UInt8 := 44 :: TX8_signed_9
def TX8_signed_7 : List UInt8 := 77 :: TX8_signed_8
def TX8_signed_4 : List UInt8 := 192 :: 0 :: 19 :: TX8_signed_7
def TX8_signed_1 : List UInt8 := 182 :: 0 :: 59 :: TX8_signed_4
def TX8_signed_0 : List UInt8 := 42 :: TX8_signed_1
theorem DX8_signed_0 : cX8_signed.data.toList.drop 0 = TX8_signed_0 := by decide +kernel
theorem DX8_signed_1 : cX8_signed.data.toList.drop 1 = TX8_signed_1 := dr1 DX8_signed_0
theorem DX8_signed_4 : cX8_signed.data.toList.drop 4 = TX8_signed_4 := dr3 DX8_signed_1
theorem DX8_signed_7 : cX8_signed.data.toList.drop 7 = TX8_signed_7 := dr3 DX8_signed_4
theorem DX8_signed_8 : cX8_signed.data.toList.drop 8 = TX8_signed_8 := dr1 DX8_signed_7
theorem DX8_signed_9 : cX8_signed.data.toList.drop 9 = TX8_signed_9 := dr1 DX8_signed_8
theorem DX8_signed_10 : cX8_signed.data.toList.drop 10 = TX8_signed_10 := dr1 DX8_signed_9
theorem DX8_signed_11 : cX8_signed.data.toList.drop 11 = TX8_signed_11 := dr1 DX8_signed_10
theorem DX8_signed_12 : cX8_signed.data.toList.drop 12 = TX8_signed_12 := dr1 DX8_signed_11
theorem DX8_signed_13 : cX8_signed.data.toList.drop 13 = TX8_signed_13 := dr1 DX8_signed_12
theorem dX8_signed_0 : decode cX8_signed 0 = .ok (.aload_n 0, 1) := do_2a DX8_signed_0
theorem dX8_signed_1 : decode cX8_signed 1 = .ok (.invokevirtual 59, 3) := do_b6 DX8_signed_1
theorem dX8_signed_4 : decode cX8_signed 4 = .ok (.checkcast 19, 3) := do_c0 DX8_signed_4
theorem dX8_signed_7 : decode cX8_signed 7 = .ok (.astore_n 2, 1) := do_4d DX8_signed_7
theorem dX8_signed_8 : decode cX8_signed 8 = .ok (.aload_n 2, 1) := do_2c DX8_signed_8
theorem dX8_signed_9 : decode cX8_signed 9 = .ok (.iconst 0, 1) := do_03 DX8_signed_9
theorem dX8_signed_10 : decode cX8_signed 10 = .ok (.iload_n 1, 1) := do_1b DX8_signed_10
theorem dX8_signed_11 : decode cX8_signed 11 = .ok (.iastore, 1) := do_4f DX8_signed_11
theorem dX8_signed_12 : decode cX8_signed 12 = .ok (.aload_n 2, 1) := do_2c DX8_signed_12
theorem dX8_signed_13 : decode cX8_signed 13 = .ok (.areturn, 1) := do_b0 DX8_signed_13
def TX8_bySize_47 : List UInt8 := []
def TX8_bySize_46 : List UInt8 := 172 :: TX8_bySize_47
def TX8_bySize_45 : List UInt8 := 3 :: TX8_bySize_46
def TX8_bySize_42 : List UInt8 := 167 :: 255 :: 232 :: TX8_bySize_45
def TX8_bySize_39 : List UInt8 := 132 :: 2 :: 255 :: TX8_bySize_42
def TX8_bySize_38 : List UInt8 := 172 :: TX8_bySize_39
def TX8_bySize_37 : List UInt8 := 100 :: TX8_bySize_38
def TX8_bySize_36 : List UInt8 := 46 :: TX8_bySize_37
def TX8_bySize_35 : List UInt8 := 28 :: TX8_bySize_36
def TX8_bySize_34 : List UInt8 := 43 :: TX8_bySize_35
def TX8_bySize_33 : List UInt8 := 46 :: TX8_bySize_34
def TX8_bySize_32 : List UInt8 := 28 :: TX8_bySize_33
def TX8_bySize_31 : List UInt8 := 42 :: TX8_bySize_32
def TX8_bySize_28 : List UInt8 := 159 :: 0 :: 11 :: TX8_bySize_31
def TX8_bySize_27 : List UInt8 := 46 :: TX8_bySize_28
def TX8_bySize_26 : List UInt8 := 28 :: TX8_bySize_27
def TX8_bySize_25 : List UInt8 := 43 :: TX8_bySize_26
def TX8_bySize_24 : List UInt8 := 46 :: TX8_bySize_25
def TX8_bySize_23 : List UInt8 := 28 :: TX8_bySize_24
def TX8_bySize_22 : List UInt8 := 42 :: TX8_bySize_23
def TX8_bySize_19 : List UInt8 := 158 :: 0 :: 26 :: TX8_bySize_22
def TX8_bySize_18 : List UInt8 := 28 :: TX8_bySize_19
def TX8_bySize_17 : List UInt8 := 61 :: TX8_bySize_18
def TX8_bySize_16 : List UInt8 := 100 :: TX8_bySize_17
def TX8_bySize_15 : List UInt8 := 4 :: TX8_bySize_16
def TX8_bySize_14 : List UInt8 := 190 :: TX8_bySize_15
def TX8_bySize_13 : List UInt8 := 42 :: TX8_bySize_14
def TX8_bySize_12 : List UInt8 := 172 :: TX8_bySize_13
def TX8_bySize_11 : List UInt8 := 100 :: TX8_bySize_12
def TX8_bySize_10 : List UInt8 := 190 :: TX8_bySize_11
def TX8_bySize_9 : List UInt8 := 43 :: TX8_bySize_10
def TX8_bySize_8 : List UInt8 := 190 :: TX8_bySize_9
def TX8_bySize_7 : List UInt8 := 42 :: TX8_bySize_8
def TX8_bySize_4 : List UInt8 := 159 :: 0 :: 9 :: TX8_bySize_7
def TX8_bySize_3 : List UInt8 := 190 :: TX8_bySize_4
def TX8_bySize_2 : List UInt8 := 43 :: TX8_bySize_3
def TX8_bySize_1 : List UInt8 := 190 :: TX8_bySize_2
def TX8_bySize_0 : List UInt8 := 42 :: TX8_bySize_1
theorem DX8_bySize_0 : cX8_bySize.data.toList.drop 0 = TX8_bySize_0 := by decide +kernel
theorem DX8_bySize_1 : cX8_bySize.data.toList.drop 1 = TX8_bySize_1 := dr1 DX8_bySize_0
theorem DX8_bySize_2 : cX8_bySize.data.toList.drop 2 = TX8_bySize_2 := dr1 DX8_bySize_1
theorem DX8_bySize_3 : cX8_bySize.data.toList.drop 3 = TX8_bySize_3 := dr1 DX8_bySize_2
theorem DX8_bySize_4 : cX8_bySize.data.toList.drop 4 = TX8_bySize_4 := dr1 DX8_bySize_3
theorem DX8_bySize_7 : cX8_bySize.data.toList.drop 7 = TX8_bySize_7 := dr3 DX8_bySize_4
theorem DX8_bySize_8 : cX8_bySize.data.toList.drop 8 = TX8_bySize_8 := dr1 DX8_bySize_7
theorem DX8_bySize_9 : cX8_bySize.data.toList.drop 9 = TX8_bySize_9 := dr1 DX8_bySize_8
theorem DX8_bySize_10 : cX8_bySize.data.toList.drop 10 = TX8_bySize_10 := dr1 DX8_bySize_9
theorem DX8_bySize_11 : cX8_bySize.data.toList.drop 11 = TX8_bySize_11 := dr1 DX8_bySize_10
theorem DX8_bySize_12 : cX8_bySize.data.toList.drop 12 = TX8_bySize_12 := dr1 DX8_bySize_11
theorem DX8_bySize_13 : cX8_bySize.data.toList.drop 13 = TX8_bySize_13 := dr1 DX8_bySize_12
theorem DX8_bySize_14 : cX8_bySize.data.toList.drop 14 = TX8_bySize_14 := dr1 DX8_bySize_13
theorem DX8_bySize_15 : cX8_bySize.data.toList.drop 15 = TX8_bySize_15 := dr1 DX8_bySize_14
theorem DX8_bySize_16 : cX8_bySize.data.toList.drop 16 = TX8_bySize_16 := dr1 DX8_bySize_15
theorem DX8_bySize_17 : cX8_bySize.data.toList.drop 17 = TX8_bySize_17 := dr1 DX8_bySize_16
theorem DX8_bySize_18 : cX8_bySize.data.toList.drop 18 = TX8_bySize_18 := dr1 DX8_bySize_17
theorem DX8_bySize_19 : cX8_bySize.data.toList.drop 19 = TX8_bySize_19 := dr1 DX8_bySize_18
theorem DX8_bySize_22 : cX8_bySize.data.toList.drop 22 = TX8_bySize_22 := dr3 DX8_bySize_19
theorem DX8_bySize_23 : cX8_bySize.data.toList.drop 23 = TX8_bySize_23 := dr1 DX8_bySize_22
theorem DX8_bySize_24 : cX8_bySize.data.toList.drop 24 = TX8_bySize_24 := dr1 DX8_bySize_23
theorem DX8_bySize_25 : cX8_bySize.data.toList.drop 25 = TX8_bySize_25 := dr1 DX8_bySize_24
theorem DX8_bySize_26 : cX8_bySize.data.toList.drop 26 = TX8_bySize_26 := dr1 DX8_bySize_25
theorem DX8_bySize_27 : cX8_bySize.data.toList.drop 27 = TX8_bySize_27 := dr1 DX8_bySize_26
theorem DX8_bySize_28 : cX8_bySize.data.toList.drop 28 = TX8_bySize_28 := dr1 DX8_bySize_27
theorem DX8_bySize_31 : cX8_bySize.data.toList.drop 31 = TX8_bySize_31 := dr3 DX8_bySize_28
theorem DX8_bySize_32 : cX8_bySize.data.toList.drop 32 = TX8_bySize_32 := dr1 DX8_bySize_31
theorem DX8_bySize_33 : cX8_bySize.data.toList.drop 33 = TX8_bySize_33 := dr1 DX8_bySize_32
theorem DX8_bySize_34 : cX8_bySize.data.toList.drop 34 = TX8_bySize_34 := dr1 DX8_bySize_33
theorem DX8_bySize_35 : cX8_bySize.data.toList.drop 35 = TX8_bySize_35 := dr1 DX8_bySize_34
theorem DX8_bySize_36 : cX8_bySize.data.toList.drop 36 = TX8_bySize_36 := dr1 DX8_bySize_35
theorem DX8_bySize_37 : cX8_bySize.data.toList.drop 37 = TX8_bySize_37 := dr1 DX8_bySize_36
theorem DX8_bySize_38 : cX8_bySize.data.toList.drop 38 = TX8_bySize_38 := dr1 DX8_bySize_37
theorem DX8_bySize_39 : cX8_bySize.data.toList.drop 39 = TX8_bySize_39 := dr1 DX8_bySize_38
theorem DX8_bySize_42 : cX8_bySize.data.toList.drop 42 = TX8_bySize_42 := dr3 DX8_bySize_39
theorem DX8_bySize_45 : cX8_bySize.data.toList.drop 45 = TX8_bySize_45 := dr3 DX8_bySize_42
theorem DX8_bySize_46 : cX8_bySize.data.toList.drop 46 = TX8_bySize_46 := dr1 DX8_bySize_45
theorem dX8_bySize_0 : decode cX8_bySize 0 = .ok (.aload_n 0, 1) := do_2a DX8_bySize_0
theorem dX8_bySize_1 : decode cX8_bySize 1 = .ok (.arraylength, 1) := do_be DX8_bySize_1
theorem dX8_bySize_2 : decode cX8_bySize 2 = .ok (.aload_n 1, 1) := do_2b DX8_bySize_2
theorem dX8_bySize_3 : decode cX8_bySize 3 = .ok (.arraylength, 1) := do_be DX8_bySize_3
theorem dX8_bySize_4 : decode cX8_bySize 4 = .ok (.if_icmp .eq 9, 3) := do_9f DX8_bySize_4 (by decide +kernel)
theorem dX8_bySize_7 : decode cX8_bySize 7 = .ok (.aload_n 0, 1) := do_2a DX8_bySize_7
theorem dX8_bySize_8 : decode cX8_bySize 8 = .ok (.arraylength, 1) := do_be DX8_bySize_8
theorem dX8_bySize_9 : decode cX8_bySize 9 = .ok (.aload_n 1, 1) := do_2b DX8_bySize_9
theorem dX8_bySize_10 : decode cX8_bySize 10 = .ok (.arraylength, 1) := do_be DX8_bySize_10
theorem dX8_bySize_11 : decode cX8_bySize 11 = .ok (.isub, 1) := do_64 DX8_bySize_11
theorem dX8_bySize_12 : decode cX8_bySize 12 = .ok (.ireturn, 1) := do_ac DX8_bySize_12
theorem dX8_bySize_13 : decode cX8_bySize 13 = .ok (.aload_n 0, 1) := do_2a DX8_bySize_13
theorem dX8_bySize_14 : decode cX8_bySize 14 = .ok (.arraylength, 1) := do_be DX8_bySize_14
theorem dX8_bySize_15 : decode cX8_bySize 15 = .ok (.iconst 1, 1) := do_04 DX8_bySize_15
theorem dX8_bySize_16 : decode cX8_bySize 16 = .ok (.isub, 1) := do_64 DX8_bySize_16
theorem dX8_bySize_17 : decode cX8_bySize 17 = .ok (.istore_n 2, 1) := do_3d DX8_bySize_17
theorem dX8_bySize_18 : decode cX8_bySize 18 = .ok (.iload_n 2, 1) := do_1c DX8_bySize_18
theorem dX8_bySize_19 : decode cX8_bySize 19 = .ok (.ifCond .le 26, 3) := do_9e DX8_bySize_19 (by decide +kernel)
theorem dX8_bySize_22 : decode cX8_bySize 22 = .ok (.aload_n 0, 1) := do_2a DX8_bySize_22
theorem dX8_bySize_23 : decode cX8_bySize 23 = .ok (.iload_n 2, 1) := do_1c DX8_bySize_23
theorem dX8_bySize_24 : decode cX8_bySize 24 = .ok (.iaload, 1) := do_2e DX8_bySize_24
theorem dX8_bySize_25 : decode cX8_bySize 25 = .ok (.aload_n 1, 1) := do_2b DX8_bySize_25
theorem dX8_bySize_26 : decode cX8_bySize 26 = .ok (.iload_n 2, 1) := do_1c DX8_bySize_26
theorem dX8_bySize_27 : decode cX8_bySize 27 = .ok (.iaload, 1) := do_2e DX8_bySize_27
theorem dX8_bySize_28 : decode cX8_bySize 28 = .ok (.if_icmp .eq 11, 3) := do_9f DX8_bySize_28 (by decide +kernel)
theorem dX8_bySize_31 : decode cX8_bySize 31 = .ok (.aload_n 0, 1) := do_2a DX8_bySize_31
theorem dX8_bySize_32 : decode cX8_bySize 32 = .ok (.iload_n 2, 1) := do_1c DX8_bySize_32
theorem dX8_bySize_33 : decode cX8_bySize 33 = .ok (.iaload, 1) := do_2e DX8_bySize_33
theorem dX8_bySize_34 : decode cX8_bySize 34 = .ok (.aload_n 1, 1) := do_2b DX8_bySize_34
theorem dX8_bySize_35 : decode cX8_bySize 35 = .ok (.iload_n 2, 1) := do_1c DX8_bySize_35
theorem dX8_bySize_36 : decode cX8_bySize 36 = .ok (.iaload, 1) := do_2e DX8_bySize_36
theorem dX8_bySize_37 : decode cX8_bySize 37 = .ok (.isub, 1) := do_64 DX8_bySize_37
theorem dX8_bySize_38 : decode cX8_bySize 38 = .ok (.ireturn, 1) := do_ac DX8_bySize_38
theorem dX8_bySize_39 : decode cX8_bySize 39 = .ok (.iinc 2 (-1), 3) := do_84 DX8_bySize_39
theorem dX8_bySize_42 : decode cX8_bySize 42 = .ok (.goto (-24), 3) := do_a7 DX8_bySize_42 (by decide +kernel)
theorem dX8_bySize_45 : decode cX8_bySize 45 = .ok (.iconst 0, 1) := do_03 DX8_bySize_45
theorem dX8_bySize_46 : decode cX8_bySize 46 = .ok (.ireturn, 1) := do_ac DX8_bySize_46
def TX8_side_52 : List UInt8 := []
def TX8_side_51 : List UInt8 := 172 :: TX8_side_52
def TX8_side_50 : List UInt8 := 3 :: TX8_side_51
def TX8_side_47 : List UInt8 := 167 :: 0 :: 4 :: TX8_side_50
def TX8_side_46 : List UInt8 := 4 :: TX8_side_47
def TX8_side_43 : List UInt8 := 158 :: 0 :: 7 :: TX8_side_46
def TX8_side_42 : List UInt8 := 28 :: TX8_side_43
def TX8_side_39 : List UInt8 := 167 :: 0 :: 12 :: TX8_side_42
def TX8_side_38 : List UInt8 := 2 :: TX8_side_39
def TX8_side_35 : List UInt8 := 156 :: 0 :: 7 :: TX8_side_38
def TX8_side_34 : List UInt8 := 28 :: TX8_side_35
def TX8_side_33 : List UInt8 := 61 :: TX8_side_34
def TX8_side_32 : List UInt8 := 104 :: TX8_side_33
def TX8_side_29 : List UInt8 := 184 :: 0 :: 63 :: TX8_side_32
def TX8_side_28 : List UInt8 := 43 :: TX8_side_29
def TX8_side_27 : List UInt8 := 42 :: TX8_side_28
def TX8_side_26 : List UInt8 := 46 :: TX8_side_27
def TX8_side_25 : List UInt8 := 3 :: TX8_side_26
def TX8_side_24 : List UInt8 := 42 :: TX8_side_25
def TX8_side_23 : List UInt8 := 172 :: TX8_side_24
def TX8_side_22 : List UInt8 := 4 :: TX8_side_23
def TX8_side_19 : List UInt8 := 167 :: 0 :: 4 :: TX8_side_22
def TX8_side_18 : List UInt8 := 2 :: TX8_side_19
def TX8_side_15 : List UInt8 := 162 :: 0 :: 7 :: TX8_side_18
def TX8_side_14 : List UInt8 := 46 :: TX8_side_15
def TX8_side_13 : List UInt8 := 3 :: TX8_side_14
def TX8_side_12 : List UInt8 := 43 :: TX8_side_13
def TX8_side_11 : List UInt8 := 46 :: TX8_side_12
def TX8_side_10 : List UInt8 := 3 :: TX8_side_11
def TX8_side_9 : List UInt8 := 42 :: TX8_side_10
def TX8_side_6 : List UInt8 := 159 :: 0 :: 18 :: TX8_side_9
def TX8_side_5 : List UInt8 := 46 :: TX8_side_6
def TX8_side_4 : List UInt8 := 3 :: TX8_side_5
def TX8_side_3 : List UInt8 := 43 :: TX8_side_4
def TX8_side_2 : List UInt8 := 46 :: TX8_side_3
def TX8_side_1 : List UInt8 := 3 :: TX8_side_2
def TX8_side_0 : List UInt8 := 42 :: TX8_side_1
theorem DX8_side_0 : cX8_side.data.toList.drop 0 = TX8_side_0 := by decide +kernel
theorem DX8_side_1 : cX8_side.data.toList.drop 1 = TX8_side_1 := dr1 DX8_side_0
theorem DX8_side_2 : cX8_side.data.toList.drop 2 = TX8_side_2 := dr1 DX8_side_1
theorem DX8_side_3 : cX8_side.data.toList.drop 3 = TX8_side_3 := dr1 DX8_side_2
theorem DX8_side_4 : cX8_side.data.toList.drop 4 = TX8_side_4 := dr1 DX8_side_3
theorem DX8_side_5 : cX8_side.data.toList.drop 5 = TX8_side_5 := dr1 DX8_side_4
theorem DX8_side_6 : cX8_side.data.toList.drop 6 = TX8_side_6 := dr1 DX8_side_5
theorem DX8_side_9 : cX8_side.data.toList.drop 9 = TX8_side_9 := dr3 DX8_side_6
theorem DX8_side_10 : cX8_side.data.toList.drop 10 = TX8_side_10 := dr1 DX8_side_9
theorem DX8_side_11 : cX8_side.data.toList.drop 11 = TX8_side_11 := dr1 DX8_side_10
theorem DX8_side_12 : cX8_side.data.toList.drop 12 = TX8_side_12 := dr1 DX8_side_11
theorem DX8_side_13 : cX8_side.data.toList.drop 13 = TX8_side_13 := dr1 DX8_side_12
theorem DX8_side_14 : cX8_side.data.toList.drop 14 = TX8_side_14 := dr1 DX8_side_13
theorem DX8_side_15 : cX8_side.data.toList.drop 15 = TX8_side_15 := dr1 DX8_side_14
theorem DX8_side_18 : cX8_side.data.toList.drop 18 = TX8_side_18 := dr3 DX8_side_15
theorem DX8_side_19 : cX8_side.data.toList.drop 19 = TX8_side_19 := dr1 DX8_side_18
theorem DX8_side_22 : cX8_side.data.toList.drop 22 = TX8_side_22 := dr3 DX8_side_19
theorem DX8_side_23 : cX8_side.data.toList.drop 23 = TX8_side_23 := dr1 DX8_side_22
theorem DX8_side_24 : cX8_side.data.toList.drop 24 = TX8_side_24 := dr1 DX8_side_23
theorem DX8_side_25 : cX8_side.data.toList.drop 25 = TX8_side_25 := dr1 DX8_side_24
theorem DX8_side_26 : cX8_side.data.toList.drop 26 = TX8_side_26 := dr1 DX8_side_25
theorem DX8_side_27 : cX8_side.data.toList.drop 27 = TX8_side_27 := dr1 DX8_side_26
theorem DX8_side_28 : cX8_side.data.toList.drop 28 = TX8_side_28 := dr1 DX8_side_27
theorem DX8_side_29 : cX8_side.data.toList.drop 29 = TX8_side_29 := dr1 DX8_side_28
theorem DX8_side_32 : cX8_side.data.toList.drop 32 = TX8_side_32 := dr3 DX8_side_29
theorem DX8_side_33 : cX8_side.data.toList.drop 33 = TX8_side_33 := dr1 DX8_side_32
theorem DX8_side_34 : cX8_side.data.toList.drop 34 = TX8_side_34 := dr1 DX8_side_33
theorem DX8_side_35 : cX8_side.data.toList.drop 35 = TX8_side_35 := dr1 DX8_side_34
theorem DX8_side_38 : cX8_side.data.toList.drop 38 = TX8_side_38 := dr3 DX8_side_35
theorem DX8_side_39 : cX8_side.data.toList.drop 39 = TX8_side_39 := dr1 DX8_side_38
theorem DX8_side_42 : cX8_side.data.toList.drop 42 = TX8_side_42 := dr3 DX8_side_39
theorem DX8_side_43 : cX8_side.data.toList.drop 43 = TX8_side_43 := dr1 DX8_side_42
theorem DX8_side_46 : cX8_side.data.toList.drop 46 = TX8_side_46 := dr3 DX8_side_43
theorem DX8_side_47 : cX8_side.data.toList.drop 47 = TX8_side_47 := dr1 DX8_side_46
theorem DX8_side_50 : cX8_side.data.toList.drop 50 = TX8_side_50 := dr3 DX8_side_47
theorem DX8_side_51 : cX8_side.data.toList.drop 51 = TX8_side_51 := dr1 DX8_side_50
theorem dX8_side_0 : decode cX8_side 0 = .ok (.aload_n 0, 1) := do_2a DX8_side_0
theorem dX8_side_1 : decode cX8_side 1 = .ok (.iconst 0, 1) := do_03 DX8_side_1
theorem dX8_side_2 : decode cX8_side 2 = .ok (.iaload, 1) := do_2e DX8_side_2
theorem dX8_side_3 : decode cX8_side 3 = .ok (.aload_n 1, 1) := do_2b DX8_side_3
theorem dX8_side_4 : decode cX8_side 4 = .ok (.iconst 0, 1) := do_03 DX8_side_4
theorem dX8_side_5 : decode cX8_side 5 = .ok (.iaload, 1) := do_2e DX8_side_5
theorem dX8_side_6 : decode cX8_side 6 = .ok (.if_icmp .eq 18, 3) := do_9f DX8_side_6 (by decide +kernel)
theorem dX8_side_9 : decode cX8_side 9 = .ok (.aload_n 0, 1) := do_2a DX8_side_9
theorem dX8_side_10 : decode cX8_side 10 = .ok (.iconst 0, 1) := do_03 DX8_side_10
theorem dX8_side_11 : decode cX8_side 11 = .ok (.iaload, 1) := do_2e DX8_side_11
theorem dX8_side_12 : decode cX8_side 12 = .ok (.aload_n 1, 1) := do_2b DX8_side_12
theorem dX8_side_13 : decode cX8_side 13 = .ok (.iconst 0, 1) := do_03 DX8_side_13
theorem dX8_side_14 : decode cX8_side 14 = .ok (.iaload, 1) := do_2e DX8_side_14
theorem dX8_side_15 : decode cX8_side 15 = .ok (.if_icmp .ge 7, 3) := do_a2 DX8_side_15 (by decide +kernel)
theorem dX8_side_18 : decode cX8_side 18 = .ok (.iconst (-1), 1) := do_02 DX8_side_18
theorem dX8_side_19 : decode cX8_side 19 = .ok (.goto 4, 3) := do_a7 DX8_side_19 (by decide +kernel)
theorem dX8_side_22 : decode cX8_side 22 = .ok (.iconst 1, 1) := do_04 DX8_side_22
theorem dX8_side_23 : decode cX8_side 23 = .ok (.ireturn, 1) := do_ac DX8_side_23
theorem dX8_side_24 : decode cX8_side 24 = .ok (.aload_n 0, 1) := do_2a DX8_side_24
theorem dX8_side_25 : decode cX8_side 25 = .ok (.iconst 0, 1) := do_03 DX8_side_25
theorem dX8_side_26 : decode cX8_side 26 = .ok (.iaload, 1) := do_2e DX8_side_26
theorem dX8_side_27 : decode cX8_side 27 = .ok (.aload_n 0, 1) := do_2a DX8_side_27
theorem dX8_side_28 : decode cX8_side 28 = .ok (.aload_n 1, 1) := do_2b DX8_side_28
theorem dX8_side_29 : decode cX8_side 29 = .ok (.invokestatic 63, 3) := do_b8 DX8_side_29
theorem dX8_side_32 : decode cX8_side 32 = .ok (.imul, 1) := do_68 DX8_side_32
theorem dX8_side_33 : decode cX8_side 33 = .ok (.istore_n 2, 1) := do_3d DX8_side_33
theorem dX8_side_34 : decode cX8_side 34 = .ok (.iload_n 2, 1) := do_1c DX8_side_34
theorem dX8_side_35 : decode cX8_side 35 = .ok (.ifCond .ge 7, 3) := do_9c DX8_side_35 (by decide +kernel)
theorem dX8_side_38 : decode cX8_side 38 = .ok (.iconst (-1), 1) := do_02 DX8_side_38
theorem dX8_side_39 : decode cX8_side 39 = .ok (.goto 12, 3) := do_a7 DX8_side_39 (by decide +kernel)
theorem dX8_side_42 : decode cX8_side 42 = .ok (.iload_n 2, 1) := do_1c DX8_side_42
theorem dX8_side_43 : decode cX8_side 43 = .ok (.ifCond .le 7, 3) := do_9e DX8_side_43 (by decide +kernel)
theorem dX8_side_46 : decode cX8_side 46 = .ok (.iconst 1, 1) := do_04 DX8_side_46
theorem dX8_side_47 : decode cX8_side 47 = .ok (.goto 4, 3) := do_a7 DX8_side_47 (by decide +kernel)
theorem dX8_side_50 : decode cX8_side 50 = .ok (.iconst 0, 1) := do_03 DX8_side_50
theorem dX8_side_51 : decode cX8_side 51 = .ok (.ireturn, 1) := do_ac DX8_side_51
def TX8_plus_141 : List UInt8 := []
def TX8_plus_140 : List UInt8 := 176 :: TX8_plus_141
def TX8_plus_137 : List UInt8 := 184 :: 0 :: 55 :: TX8_plus_140
def TX8_plus_136 : List UInt8 := 44 :: TX8_plus_137
def TX8_plus_135 : List UInt8 := 46 :: TX8_plus_136
def TX8_plus_134 : List UInt8 := 3 :: TX8_plus_135
def TX8_plus_133 : List UInt8 := 42 :: TX8_plus_134
def TX8_plus_130 : List UInt8 := 167 :: 255 :: 190 :: TX8_plus_133
def TX8_plus_127 : List UInt8 := 132 :: 4 :: 1 :: TX8_plus_130
def TX8_plus_126 : List UInt8 := 62 :: TX8_plus_127
def TX8_plus_125 : List UInt8 := 136 :: TX8_plus_126
def TX8_plus_124 : List UInt8 := 123 :: TX8_plus_125
def TX8_plus_122 : List UInt8 := 16 :: 30 :: TX8_plus_124
def TX8_plus_120 : List UInt8 := 22 :: 5 :: TX8_plus_122
def TX8_plus_119 : List UInt8 := 79 :: TX8_plus_120
def TX8_plus_118 : List UInt8 := 136 :: TX8_plus_119
def TX8_plus_117 : List UInt8 := 127 :: TX8_plus_118
def TX8_plus_114 : List UInt8 := 20 :: 0 :: 53 :: TX8_plus_117
def TX8_plus_112 : List UInt8 := 22 :: 5 :: TX8_plus_114
def TX8_plus_110 : List UInt8 := 21 :: 4 :: TX8_plus_112
def TX8_plus_109 : List UInt8 := 44 :: TX8_plus_110
def TX8_plus_107 : List UInt8 := 55 :: 5 :: TX8_plus_109
def TX8_plus_106 : List UInt8 := 97 :: TX8_plus_107
def TX8_plus_105 : List UInt8 := 133 :: TX8_plus_106
def TX8_plus_104 : List UInt8 := 3 :: TX8_plus_105
def TX8_plus_101 : List UInt8 := 167 :: 0 :: 4 :: TX8_plus_104
def TX8_plus_100 : List UInt8 := 46 :: TX8_plus_101
def TX8_plus_98 : List UInt8 := 21 :: 4 :: TX8_plus_100
def TX8_plus_97 : List UInt8 := 43 :: TX8_plus_98
def TX8_plus_94 : List UInt8 := 162 :: 0 :: 10 :: TX8_plus_97
def TX8_plus_93 : List UInt8 := 190 :: TX8_plus_94
def TX8_plus_92 : List UInt8 := 43 :: TX8_plus_93
def TX8_plus_90 : List UInt8 := 21 :: 4 :: TX8_plus_92
def TX8_plus_89 : List UInt8 := 97 :: TX8_plus_90
def TX8_plus_88 : List UInt8 := 133 :: TX8_plus_89
def TX8_plus_87 : List UInt8 := 3 :: TX8_plus_88
def TX8_plus_84 : List UInt8 := 167 :: 0 :: 4 :: TX8_plus_87
def TX8_plus_83 : List UInt8 := 46 :: TX8_plus_84
def TX8_plus_81 : List UInt8 := 21 :: 4 :: TX8_plus_83
def TX8_plus_80 : List UInt8 := 42 :: TX8_plus_81
def TX8_plus_77 : List UInt8 := 162 :: 0 :: 10 :: TX8_plus_80
def TX8_plus_76 : List UInt8 := 190 :: TX8_plus_77
def TX8_plus_75 : List UInt8 := 42 :: TX8_plus_76
def TX8_plus_73 : List UInt8 := 21 :: 4 :: TX8_plus_75
def TX8_plus_72 : List UInt8 := 133 :: TX8_plus_73
def TX8_plus_71 : List UInt8 := 29 :: TX8_plus_72
def TX8_plus_68 : List UInt8 := 162 :: 0 :: 65 :: TX8_plus_71
def TX8_plus_67 : List UInt8 := 190 :: TX8_plus_68
def TX8_plus_66 : List UInt8 := 44 :: TX8_plus_67
def TX8_plus_64 : List UInt8 := 21 :: 4 :: TX8_plus_66
def TX8_plus_62 : List UInt8 := 54 :: 4 :: TX8_plus_64
def TX8_plus_61 : List UInt8 := 4 :: TX8_plus_62
def TX8_plus_60 : List UInt8 := 62 :: TX8_plus_61
def TX8_plus_59 : List UInt8 := 3 :: TX8_plus_60
def TX8_plus_58 : List UInt8 := 77 :: TX8_plus_59
def TX8_plus_56 : List UInt8 := 188 :: 10 :: TX8_plus_58
def TX8_plus_55 : List UInt8 := 96 :: TX8_plus_56
def TX8_plus_54 : List UInt8 := 4 :: TX8_plus_55
def TX8_plus_51 : List UInt8 := 184 :: 0 :: 71 :: TX8_plus_54
def TX8_plus_50 : List UInt8 := 190 :: TX8_plus_51
def TX8_plus_49 : List UInt8 := 43 :: TX8_plus_50
def TX8_plus_48 : List UInt8 := 190 :: TX8_plus_49
def TX8_plus_47 : List UInt8 := 42 :: TX8_plus_48
def TX8_plus_46 : List UInt8 := 176 :: TX8_plus_47
def TX8_plus_43 : List UInt8 := 184 :: 0 :: 67 :: TX8_plus_46
def TX8_plus_42 : List UInt8 := 43 :: TX8_plus_43
def TX8_plus_41 : List UInt8 := 42 :: TX8_plus_42
def TX8_plus_38 : List UInt8 := 167 :: 0 :: 8 :: TX8_plus_41
def TX8_plus_35 : List UInt8 := 184 :: 0 :: 67 :: TX8_plus_38
def TX8_plus_34 : List UInt8 := 42 :: TX8_plus_35
def TX8_plus_33 : List UInt8 := 43 :: TX8_plus_34
def TX8_plus_30 : List UInt8 := 156 :: 0 :: 11 :: TX8_plus_33
def TX8_plus_27 : List UInt8 := 184 :: 0 :: 63 :: TX8_plus_30
def TX8_plus_26 : List UInt8 := 43 :: TX8_plus_27
def TX8_plus_25 : List UInt8 := 42 :: TX8_plus_26
def TX8_plus_22 : List UInt8 := 159 :: 0 :: 25 :: TX8_plus_25
def TX8_plus_21 : List UInt8 := 46 :: TX8_plus_22
def TX8_plus_20 : List UInt8 := 3 :: TX8_plus_21
def TX8_plus_19 : List UInt8 := 43 :: TX8_plus_20
def TX8_plus_18 : List UInt8 := 46 :: TX8_plus_19
def TX8_plus_17 : List UInt8 := 3 :: TX8_plus_18
def TX8_plus_16 : List UInt8 := 42 :: TX8_plus_17
def TX8_plus_15 : List UInt8 := 176 :: TX8_plus_16
def TX8_plus_14 : List UInt8 := 42 :: TX8_plus_15
def TX8_plus_11 : List UInt8 := 154 :: 0 :: 5 :: TX8_plus_14
def TX8_plus_10 : List UInt8 := 46 :: TX8_plus_11
def TX8_plus_9 : List UInt8 := 3 :: TX8_plus_10
def TX8_plus_8 : List UInt8 := 43 :: TX8_plus_9
def TX8_plus_7 : List UInt8 := 176 :: TX8_plus_8
def TX8_plus_6 : List UInt8 := 43 :: TX8_plus_7
def TX8_plus_3 : List UInt8 := 154 :: 0 :: 5 :: TX8_plus_6
def TX8_plus_2 : List UInt8 := 46 :: TX8_plus_3
def TX8_plus_1 : List UInt8 := 3 :: TX8_plus_2
def TX8_plus_0 : List UInt8 := 42 :: TX8_plus_1
theorem DX8_plus_0 : cX8_plus.data.toList.drop 0 = TX8_plus_0 := by decide +kernel
theorem DX8_plus_1 : cX8_plus.data.toList.drop 1 = TX8_plus_1 := dr1 DX8_plus_0
theorem DX8_plus_2 : cX8_plus.data.toList.drop 2 = TX8_plus_2 := dr1 DX8_plus_1
theorem DX8_plus_3 : cX8_plus.data.toList.drop 3 = TX8_plus_3 := dr1 DX8_plus_2
theorem DX8_plus_6 : cX8_plus.data.toList.drop 6 = TX8_plus_6 := dr3 DX8_plus_3
theorem DX8_plus_7 : cX8_plus.data.toList.drop 7 = TX8_plus_7 := dr1 DX8_plus_6
theorem DX8_plus_8 : cX8_plus.data.toList.drop 8 = TX8_plus_8 := dr1 DX8_plus_7
theorem DX8_plus_9 : cX8_plus.data.toList.drop 9 = TX8_plus_9 := dr1 DX8_plus_8
theorem DX8_plus_10 : cX8_plus.data.toList.drop 10 = TX8_plus_10 := dr1 DX8_plus_9
theorem DX8_plus_11 : cX8_plus.data.toList.drop 11 = TX8_plus_11 := dr1 DX8_plus_10
theorem DX8_plus_14 : cX8_plus.data.toList.drop 14 = TX8_plus_14 := dr3 DX8_plus_11
theorem DX8_plus_15 : cX8_plus.data.toList.drop 15 = TX8_plus_15 := dr1 DX8_plus_14
theorem DX8_plus_16 : cX8_plus.data.toList.drop 16 = TX8_plus_16 := dr1 DX8_plus_15
theorem DX8_plus_17 : cX8_plus.data.toList.drop 17 = TX8_plus_17 := dr1 DX8_plus_16
theorem DX8_plus_18 : cX8_plus.data.toList.drop 18 = TX8_plus_18 := dr1 DX8_plus_17
theorem DX8_plus_19 : cX8_plus.data.toList.drop 19 = TX8_plus_19 := dr1 DX8_plus_18
theorem DX8_plus_20 : cX8_plus.data.toList.drop 20 = TX8_plus_20 := dr1 DX8_plus_19
theorem DX8_plus_21 : cX8_plus.data.toList.drop 21 = TX8_plus_21 := dr1 DX8_plus_20
theorem DX8_plus_22 : cX8_plus.data.toList.drop 22 = TX8_plus_22 := dr1 DX8_plus_21
theorem DX8_plus_25 : cX8_plus.data.toList.drop 25 = TX8_plus_25 := dr3 DX8_plus_22
theorem DX8_plus_26 : cX8_plus.data.toList.drop 26 = TX8_plus_26 := dr1 DX8_plus_25
theorem DX8_plus_27 : cX8_plus.data.toList.drop 27 = TX8_plus_27 := dr1 DX8_plus_26
theorem DX8_plus_30 : cX8_plus.data.toList.drop 30 = TX8_plus_30 := dr3 DX8_plus_27
theorem DX8_plus_33 : cX8_plus.data.toList.drop 33 = TX8_plus_33 := dr3 DX8_plus_30
theorem DX8_plus_34 : cX8_plus.data.toList.drop 34 = TX8_plus_34 := dr1 DX8_plus_33
theorem DX8_plus_35 : cX8_plus.data.toList.drop 35 = TX8_plus_35 := dr1 DX8_plus_34
theorem DX8_plus_38 : cX8_plus.data.toList.drop 38 = TX8_plus_38 := dr3 DX8_plus_35
theorem DX8_plus_41 : cX8_plus.data.toList.drop 41 = TX8_plus_41 := dr3 DX8_plus_38
theorem DX8_plus_42 : cX8_plus.data.toList.drop 42 = TX8_plus_42 := dr1 DX8_plus_41
theorem DX8_plus_43 : cX8_plus.data.toList.drop 43 = TX8_plus_43 := dr1 DX8_plus_42
theorem DX8_plus_46 : cX8_plus.data.toList.drop 46 = TX8_plus_46 := dr3 DX8_plus_43
theorem DX8_plus_47 : cX8_plus.data.toList.drop 47 = TX8_plus_47 := dr1 DX8_plus_46
theorem DX8_plus_48 : cX8_plus.data.toList.drop 48 = TX8_plus_48 := dr1 DX8_plus_47
theorem DX8_plus_49 : cX8_plus.data.toList.drop 49 = TX8_plus_49 := dr1 DX8_plus_48
theorem DX8_plus_50 : cX8_plus.data.toList.drop 50 = TX8_plus_50 := dr1 DX8_plus_49
theorem DX8_plus_51 : cX8_plus.data.toList.drop 51 = TX8_plus_51 := dr1 DX8_plus_50
theorem DX8_plus_54 : cX8_plus.data.toList.drop 54 = TX8_plus_54 := dr3 DX8_plus_51
theorem DX8_plus_55 : cX8_plus.data.toList.drop 55 = TX8_plus_55 := dr1 DX8_plus_54
theorem DX8_plus_56 : cX8_plus.data.toList.drop 56 = TX8_plus_56 := dr1 DX8_plus_55
theorem DX8_plus_58 : cX8_plus.data.toList.drop 58 = TX8_plus_58 := dr2 DX8_plus_56
theorem DX8_plus_59 : cX8_plus.data.toList.drop 59 = TX8_plus_59 := dr1 DX8_plus_58
theorem DX8_plus_60 : cX8_plus.data.toList.drop 60 = TX8_plus_60 := dr1 DX8_plus_59
theorem DX8_plus_61 : cX8_plus.data.toList.drop 61 = TX8_plus_61 := dr1 DX8_plus_60
theorem DX8_plus_62 : cX8_plus.data.toList.drop 62 = TX8_plus_62 := dr1 DX8_plus_61
theorem DX8_plus_64 : cX8_plus.data.toList.drop 64 = TX8_plus_64 := dr2 DX8_plus_62
theorem DX8_plus_66 : cX8_plus.data.toList.drop 66 = TX8_plus_66 := dr2 DX8_plus_64
theorem DX8_plus_67 : cX8_plus.data.toList.drop 67 = TX8_plus_67 := dr1 DX8_plus_66
theorem DX8_plus_68 : cX8_plus.data.toList.drop 68 = TX8_plus_68 := dr1 DX8_plus_67
theorem DX8_plus_71 : cX8_plus.data.toList.drop 71 = TX8_plus_71 := dr3 DX8_plus_68
theorem DX8_plus_72 : cX8_plus.data.toList.drop 72 = TX8_plus_72 := dr1 DX8_plus_71
theorem DX8_plus_73 : cX8_plus.data.toList.drop 73 = TX8_plus_73 := dr1 DX8_plus_72
theorem DX8_plus_75 : cX8_plus.data.toList.drop 75 = TX8_plus_75 := dr2 DX8_plus_73
theorem DX8_plus_76 : cX8_plus.data.toList.drop 76 = TX8_plus_76 := dr1 DX8_plus_75
theorem DX8_plus_77 : cX8_plus.data.toList.drop 77 = TX8_plus_77 := dr1 DX8_plus_76
theorem DX8_plus_80 : cX8_plus.data.toList.drop 80 = TX8_plus_80 := dr3 DX8_plus_77
theorem DX8_plus_81 : cX8_plus.data.toList.drop 81 = TX8_plus_81 := dr1 DX8_plus_80
theorem DX8_plus_83 : cX8_plus.data.toList.drop 83 = TX8_plus_83 := dr2 DX8_plus_81
theorem DX8_plus_84 : cX8_plus.data.toList.drop 84 = TX8_plus_84 := dr1 DX8_plus_83
theorem DX8_plus_87 : cX8_plus.data.toList.drop 87 = TX8_plus_87 := dr3 DX8_plus_84
theorem DX8_plus_88 : cX8_plus.data.toList.drop 88 = TX8_plus_88 := dr1 DX8_plus_87
theorem DX8_plus_89 : cX8_plus.data.toList.drop 89 = TX8_plus_89 := dr1 DX8_plus_88
theorem DX8_plus_90 : cX8_plus.data.toList.drop 90 = TX8_plus_90 := dr1 DX8_plus_89
theorem DX8_plus_92 : cX8_plus.data.toList.drop 92 = TX8_plus_92 := dr2 DX8_plus_90
theorem DX8_plus_93 : cX8_plus.data.toList.drop 93 = TX8_plus_93 := dr1 DX8_plus_92
theorem DX8_plus_94 : cX8_plus.data.toList.drop 94 = TX8_plus_94 := dr1 DX8_plus_93
theorem DX8_plus_97 : cX8_plus.data.toList.drop 97 = TX8_plus_97 := dr3 DX8_plus_94
theorem DX8_plus_98 : cX8_plus.data.toList.drop 98 = TX8_plus_98 := dr1 DX8_plus_97
theorem DX8_plus_100 : cX8_plus.data.toList.drop 100 = TX8_plus_100 := dr2 DX8_plus_98
theorem DX8_plus_101 : cX8_plus.data.toList.drop 101 = TX8_plus_101 := dr1 DX8_plus_100
theorem DX8_plus_104 : cX8_plus.data.toList.drop 104 = TX8_plus_104 := dr3 DX8_plus_101
theorem DX8_plus_105 : cX8_plus.data.toList.drop 105 = TX8_plus_105 := dr1 DX8_plus_104
theorem DX8_plus_106 : cX8_plus.data.toList.drop 106 = TX8_plus_106 := dr1 DX8_plus_105
theorem DX8_plus_107 : cX8_plus.data.toList.drop 107 = TX8_plus_107 := dr1 DX8_plus_106
theorem DX8_plus_109 : cX8_plus.data.toList.drop 109 = TX8_plus_109 := dr2 DX8_plus_107
theorem DX8_plus_110 : cX8_plus.data.toList.drop 110 = TX8_plus_110 := dr1 DX8_plus_109
theorem DX8_plus_112 : cX8_plus.data.toList.drop 112 = TX8_plus_112 := dr2 DX8_plus_110
theorem DX8_plus_114 : cX8_plus.data.toList.drop 114 = TX8_plus_114 := dr2 DX8_plus_112
theorem DX8_plus_117 : cX8_plus.data.toList.drop 117 = TX8_plus_117 := dr3 DX8_plus_114
theorem DX8_plus_118 : cX8_plus.data.toList.drop 118 = TX8_plus_118 := dr1 DX8_plus_117
theorem DX8_plus_119 : cX8_plus.data.toList.drop 119 = TX8_plus_119 := dr1 DX8_plus_118
theorem DX8_plus_120 : cX8_plus.data.toList.drop 120 = TX8_plus_120 := dr1 DX8_plus_119
theorem DX8_plus_122 : cX8_plus.data.toList.drop 122 = TX8_plus_122 := dr2 DX8_plus_120
theorem DX8_plus_124 : cX8_plus.data.toList.drop 124 = TX8_plus_124 := dr2 DX8_plus_122
theorem DX8_plus_125 : cX8_plus.data.toList.drop 125 = TX8_plus_125 := dr1 DX8_plus_124
theorem DX8_plus_126 : cX8_plus.data.toList.drop 126 = TX8_plus_126 := dr1 DX8_plus_125
theorem DX8_plus_127 : cX8_plus.data.toList.drop 127 = TX8_plus_127 := dr1 DX8_plus_126
theorem DX8_plus_130 : cX8_plus.data.toList.drop 130 = TX8_plus_130 := dr3 DX8_plus_127
theorem DX8_plus_133 : cX8_plus.data.toList.drop 133 = TX8_plus_133 := dr3 DX8_plus_130
theorem DX8_plus_134 : cX8_plus.data.toList.drop 134 = TX8_plus_134 := dr1 DX8_plus_133
theorem DX8_plus_135 : cX8_plus.data.toList.drop 135 = TX8_plus_135 := dr1 DX8_plus_134
theorem DX8_plus_136 : cX8_plus.data.toList.drop 136 = TX8_plus_136 := dr1 DX8_plus_135
theorem DX8_plus_137 : cX8_plus.data.toList.drop 137 = TX8_plus_137 := dr1 DX8_plus_136
theorem DX8_plus_140 : cX8_plus.data.toList.drop 140 = TX8_plus_140 := dr3 DX8_plus_137
theorem dX8_plus_0 : decode cX8_plus 0 = .ok (.aload_n 0, 1) := do_2a DX8_plus_0
theorem dX8_plus_1 : decode cX8_plus 1 = .ok (.iconst 0, 1) := do_03 DX8_plus_1
theorem dX8_plus_2 : decode cX8_plus 2 = .ok (.iaload, 1) := do_2e DX8_plus_2
theorem dX8_plus_3 : decode cX8_plus 3 = .ok (.ifCond .ne 5, 3) := do_9a DX8_plus_3 (by decide +kernel)
theorem dX8_plus_6 : decode cX8_plus 6 = .ok (.aload_n 1, 1) := do_2b DX8_plus_6
theorem dX8_plus_7 : decode cX8_plus 7 = .ok (.areturn, 1) := do_b0 DX8_plus_7
theorem dX8_plus_8 : decode cX8_plus 8 = .ok (.aload_n 1, 1) := do_2b DX8_plus_8
theorem dX8_plus_9 : decode cX8_plus 9 = .ok (.iconst 0, 1) := do_03 DX8_plus_9
theorem dX8_plus_10 : decode cX8_plus 10 = .ok (.iaload, 1) := do_2e DX8_plus_10
theorem dX8_plus_11 : decode cX8_plus 11 = .ok (.ifCond .ne 5, 3) := do_9a DX8_plus_11 (by decide +kernel)
theorem dX8_plus_14 : decode cX8_plus 14 = .ok (.aload_n 0, 1) := do_2a DX8_plus_14
theorem dX8_plus_15 : decode cX8_plus 15 = .ok (.areturn, 1) := do_b0 DX8_plus_15
theorem dX8_plus_16 : decode cX8_plus 16 = .ok (.aload_n 0, 1) := do_2a DX8_plus_16
theorem dX8_plus_17 : decode cX8_plus 17 = .ok (.iconst 0, 1) := do_03 DX8_plus_17
theorem dX8_plus_18 : decode cX8_plus 18 = .ok (.iaload, 1) := do_2e DX8_plus_18
theorem dX8_plus_19 : decode cX8_plus 19 = .ok (.aload_n 1, 1) := do_2b DX8_plus_19
theorem dX8_plus_20 : decode cX8_plus 20 = .ok (.iconst 0, 1) := do_03 DX8_plus_20
theorem dX8_plus_21 : decode cX8_plus 21 = .ok (.iaload, 1) := do_2e DX8_plus_21
theorem dX8_plus_22 : decode cX8_plus 22 = .ok (.if_icmp .eq 25, 3) := do_9f DX8_plus_22 (by decide +kernel)
theorem dX8_plus_25 : decode cX8_plus 25 = .ok (.aload_n 0, 1) := do_2a DX8_plus_25
theorem dX8_plus_26 : decode cX8_plus 26 = .ok (.aload_n 1, 1) := do_2b DX8_plus_26
theorem dX8_plus_27 : decode cX8_plus 27 = .ok (.invokestatic 63, 3) := do_b8 DX8_plus_27
theorem dX8_plus_30 : decode cX8_plus 30 = .ok (.ifCond .ge 11, 3) := do_9c DX8_plus_30 (by decide +kernel)
theorem dX8_plus_33 : decode cX8_plus 33 = .ok (.aload_n 1, 1) := do_2b DX8_plus_33
theorem dX8_plus_34 : decode cX8_plus 34 = .ok (.aload_n 0, 1) := do_2a DX8_plus_34
theorem dX8_plus_35 : decode cX8_plus 35 = .ok (.invokestatic 67, 3) := do_b8 DX8_plus_35
theorem dX8_plus_38 : decode cX8_plus 38 = .ok (.goto 8, 3) := do_a7 DX8_plus_38 (by decide +kernel)
theorem dX8_plus_41 : decode cX8_plus 41 = .ok (.aload_n 0, 1) := do_2a DX8_plus_41
theorem dX8_plus_42 : decode cX8_plus 42 = .ok (.aload_n 1, 1) := do_2b DX8_plus_42
theorem dX8_plus_43 : decode cX8_plus 43 = .ok (.invokestatic 67, 3) := do_b8 DX8_plus_43
theorem dX8_plus_46 : decode cX8_plus 46 = .ok (.areturn, 1) := do_b0 DX8_plus_46
theorem dX8_plus_47 : decode cX8_plus 47 = .ok (.aload_n 0, 1) := do_2a DX8_plus_47
theorem dX8_plus_48 : decode cX8_plus 48 = .ok (.arraylength, 1) := do_be DX8_plus_48
theorem dX8_plus_49 : decode cX8_plus 49 = .ok (.aload_n 1, 1) := do_2b DX8_plus_49
theorem dX8_plus_50 : decode cX8_plus 50 = .ok (.arraylength, 1) := do_be DX8_plus_50
theorem dX8_plus_51 : decode cX8_plus 51 = .ok (.invokestatic 71, 3) := do_b8 DX8_plus_51
theorem dX8_plus_54 : decode cX8_plus 54 = .ok (.iconst 1, 1) := do_04 DX8_plus_54
theorem dX8_plus_55 : decode cX8_plus 55 = .ok (.iadd, 1) := do_60 DX8_plus_55
theorem dX8_plus_56 : decode cX8_plus 56 = .ok (.newarray .int, 2) := by decide +kernel
theorem dX8_plus_58 : decode cX8_plus 58 = .ok (.astore_n 2, 1) := do_4d DX8_plus_58
theorem dX8_plus_59 : decode cX8_plus 59 = .ok (.iconst 0, 1) := do_03 DX8_plus_59
theorem dX8_plus_60 : decode cX8_plus 60 = .ok (.istore_n 3, 1) := do_3e DX8_plus_60
theorem dX8_plus_61 : decode cX8_plus 61 = .ok (.iconst 1, 1) := do_04 DX8_plus_61
theorem dX8_plus_62 : decode cX8_plus 62 = .ok (.istore 4, 2) := do_36 DX8_plus_62
theorem dX8_plus_64 : decode cX8_plus 64 = .ok (.iload 4, 2) := do_15 DX8_plus_64
theorem dX8_plus_66 : decode cX8_plus 66 = .ok (.aload_n 2, 1) := do_2c DX8_plus_66
theorem dX8_plus_67 : decode cX8_plus 67 = .ok (.arraylength, 1) := do_be DX8_plus_67
theorem dX8_plus_68 : decode cX8_plus 68 = .ok (.if_icmp .ge 65, 3) := do_a2 DX8_plus_68 (by decide +kernel)
theorem dX8_plus_71 : decode cX8_plus 71 = .ok (.iload_n 3, 1) := do_1d DX8_plus_71
theorem dX8_plus_72 : decode cX8_plus 72 = .ok (.i2l, 1) := do_85 DX8_plus_72
theorem dX8_plus_73 : decode cX8_plus 73 = .ok (.iload 4, 2) := do_15 DX8_plus_73
theorem dX8_plus_75 : decode cX8_plus 75 = .ok (.aload_n 0, 1) := do_2a DX8_plus_75
theorem dX8_plus_76 : decode cX8_plus 76 = .ok (.arraylength, 1) := do_be DX8_plus_76
theorem dX8_plus_77 : decode cX8_plus 77 = .ok (.if_icmp .ge 10, 3) := do_a2 DX8_plus_77 (by decide +kernel)
theorem dX8_plus_80 : decode cX8_plus 80 = .ok (.aload_n 0, 1) := do_2a DX8_plus_80
theorem dX8_plus_81 : decode cX8_plus 81 = .ok (.iload 4, 2) := do_15 DX8_plus_81
theorem dX8_plus_83 : decode cX8_plus 83 = .ok (.iaload, 1) := do_2e DX8_plus_83
theorem dX8_plus_84 : decode cX8_plus 84 = .ok (.goto 4, 3) := do_a7 DX8_plus_84 (by decide +kernel)
theorem dX8_plus_87 : decode cX8_plus 87 = .ok (.iconst 0, 1) := do_03 DX8_plus_87
theorem dX8_plus_88 : decode cX8_plus 88 = .ok (.i2l, 1) := do_85 DX8_plus_88
theorem dX8_plus_89 : decode cX8_plus 89 = .ok (.ladd, 1) := do_61 DX8_plus_89
theorem dX8_plus_90 : decode cX8_plus 90 = .ok (.iload 4, 2) := do_15 DX8_plus_90
theorem dX8_plus_92 : decode cX8_plus 92 = .ok (.aload_n 1, 1) := do_2b DX8_plus_92
theorem dX8_plus_93 : decode cX8_plus 93 = .ok (.arraylength, 1) := do_be DX8_plus_93
theorem dX8_plus_94 : decode cX8_plus 94 = .ok (.if_icmp .ge 10, 3) := do_a2 DX8_plus_94 (by decide +kernel)
theorem dX8_plus_97 : decode cX8_plus 97 = .ok (.aload_n 1, 1) := do_2b DX8_plus_97
theorem dX8_plus_98 : decode cX8_plus 98 = .ok (.iload 4, 2) := do_15 DX8_plus_98
theorem dX8_plus_100 : decode cX8_plus 100 = .ok (.iaload, 1) := do_2e DX8_plus_100
theorem dX8_plus_101 : decode cX8_plus 101 = .ok (.goto 4, 3) := do_a7 DX8_plus_101 (by decide +kernel)
theorem dX8_plus_104 : decode cX8_plus 104 = .ok (.iconst 0, 1) := do_03 DX8_plus_104
theorem dX8_plus_105 : decode cX8_plus 105 = .ok (.i2l, 1) := do_85 DX8_plus_105
theorem dX8_plus_106 : decode cX8_plus 106 = .ok (.ladd, 1) := do_61 DX8_plus_106
theorem dX8_plus_107 : decode cX8_plus 107 = .ok (.lstore 5, 2) := do_37 DX8_plus_107
theorem dX8_plus_109 : decode cX8_plus 109 = .ok (.aload_n 2, 1) := do_2c DX8_plus_109
theorem dX8_plus_110 : decode cX8_plus 110 = .ok (.iload 4, 2) := do_15 DX8_plus_110
theorem dX8_plus_112 : decode cX8_plus 112 = .ok (.lload 5, 2) := do_16 DX8_plus_112
theorem dX8_plus_114 : decode cX8_plus 114 = .ok (.ldc2_w 53, 3) := by decide +kernel
theorem dX8_plus_117 : decode cX8_plus 117 = .ok (.land, 1) := do_7f DX8_plus_117
theorem dX8_plus_118 : decode cX8_plus 118 = .ok (.l2i, 1) := do_88 DX8_plus_118
theorem dX8_plus_119 : decode cX8_plus 119 = .ok (.iastore, 1) := do_4f DX8_plus_119
theorem dX8_plus_120 : decode cX8_plus 120 = .ok (.lload 5, 2) := do_16 DX8_plus_120
theorem dX8_plus_122 : decode cX8_plus 122 = .ok (.bipush 30, 2) := do_10 DX8_plus_122 (by decide +kernel)
theorem dX8_plus_124 : decode cX8_plus 124 = .ok (.lshr, 1) := do_7b DX8_plus_124
theorem dX8_plus_125 : decode cX8_plus 125 = .ok (.l2i, 1) := do_88 DX8_plus_125
theorem dX8_plus_126 : decode cX8_plus 126 = .ok (.istore_n 3, 1) := do_3e DX8_plus_126
theorem dX8_plus_127 : decode cX8_plus 127 = .ok (.iinc 4 1, 3) := do_84 DX8_plus_127
theorem dX8_plus_130 : decode cX8_plus 130 = .ok (.goto (-66), 3) := do_a7 DX8_plus_130 (by decide +kernel)
theorem dX8_plus_133 : decode cX8_plus 133 = .ok (.aload_n 0, 1) := do_2a DX8_plus_133
theorem dX8_plus_134 : decode cX8_plus 134 = .ok (.iconst 0, 1) := do_03 DX8_plus_134
theorem dX8_plus_135 : decode cX8_plus 135 = .ok (.iaload, 1) := do_2e DX8_plus_135
theorem dX8_plus_136 : decode cX8_plus 136 = .ok (.aload_n 2, 1) := do_2c DX8_plus_136
theorem dX8_plus_137 : decode cX8_plus 137 = .ok (.invokestatic 55, 3) := do_b8 DX8_plus_137
theorem dX8_plus_140 : decode cX8_plus 140 = .ok (.areturn, 1) := do_b0 DX8_plus_140
def TX8_less_77 : List UInt8 := []
def TX8_less_76 : List UInt8 := 176 :: TX8_less_77
def TX8_less_73 : List UInt8 := 184 :: 0 :: 55 :: TX8_less_76
def TX8_less_72 : List UInt8 := 44 :: TX8_less_73
def TX8_less_71 : List UInt8 := 46 :: TX8_less_72
def TX8_less_70 : List UInt8 := 3 :: TX8_less_71
def TX8_less_69 : List UInt8 := 42 :: TX8_less_70
def TX8_less_66 : List UInt8 := 167 :: 255 :: 200 :: TX8_less_69
def TX8_less_63 : List UInt8 := 132 :: 4 :: 1 :: TX8_less_66
def TX8_less_62 : List UInt8 := 79 :: TX8_less_63
def TX8_less_61 : List UInt8 := 96 :: TX8_less_62
def TX8_less_60 : List UInt8 := 120 :: TX8_less_61
def TX8_less_58 : List UInt8 := 16 :: 30 :: TX8_less_60
def TX8_less_57 : List UInt8 := 29 :: TX8_less_58
def TX8_less_55 : List UInt8 := 21 :: 5 :: TX8_less_57
def TX8_less_53 : List UInt8 := 21 :: 4 :: TX8_less_55
def TX8_less_52 : List UInt8 := 44 :: TX8_less_53
def TX8_less_51 : List UInt8 := 62 :: TX8_less_52
def TX8_less_50 : List UInt8 := 3 :: TX8_less_51
def TX8_less_47 : List UInt8 := 167 :: 0 :: 4 :: TX8_less_50
def TX8_less_46 : List UInt8 := 4 :: TX8_less_47
def TX8_less_43 : List UInt8 := 156 :: 0 :: 7 :: TX8_less_46
def TX8_less_41 : List UInt8 := 21 :: 5 :: TX8_less_43
def TX8_less_39 : List UInt8 := 54 :: 5 :: TX8_less_41
def TX8_less_38 : List UInt8 := 100 :: TX8_less_39
def TX8_less_37 : List UInt8 := 3 :: TX8_less_38
def TX8_less_34 : List UInt8 := 167 :: 0 :: 4 :: TX8_less_37
def TX8_less_33 : List UInt8 := 46 :: TX8_less_34
def TX8_less_31 : List UInt8 := 21 :: 4 :: TX8_less_33
def TX8_less_30 : List UInt8 := 43 :: TX8_less_31
def TX8_less_27 : List UInt8 := 162 :: 0 :: 10 :: TX8_less_30
def TX8_less_26 : List UInt8 := 190 :: TX8_less_27
def TX8_less_25 : List UInt8 := 43 :: TX8_less_26
def TX8_less_23 : List UInt8 := 21 :: 4 :: TX8_less_25
def TX8_less_22 : List UInt8 := 100 :: TX8_less_23
def TX8_less_21 : List UInt8 := 29 :: TX8_less_22
def TX8_less_20 : List UInt8 := 46 :: TX8_less_21
def TX8_less_18 : List UInt8 := 21 :: 4 :: TX8_less_20
def TX8_less_17 : List UInt8 := 42 :: TX8_less_18
def TX8_less_14 : List UInt8 := 162 :: 0 :: 55 :: TX8_less_17
def TX8_less_13 : List UInt8 := 190 :: TX8_less_14
def TX8_less_12 : List UInt8 := 42 :: TX8_less_13
def TX8_less_10 : List UInt8 := 21 :: 4 :: TX8_less_12
def TX8_less_8 : List UInt8 := 54 :: 4 :: TX8_less_10
def TX8_less_7 : List UInt8 := 4 :: TX8_less_8
def TX8_less_6 : List UInt8 := 62 :: TX8_less_7
def TX8_less_5 : List UInt8 := 3 :: TX8_less_6
def TX8_less_4 : List UInt8 := 77 :: TX8_less_5
def TX8_less_2 : List UInt8 := 188 :: 10 :: TX8_less_4
def TX8_less_1 : List UInt8 := 190 :: TX8_less_2
def TX8_less_0 : List UInt8 := 42 :: TX8_less_1
theorem DX8_less_0 : cX8_less.data.toList.drop 0 = TX8_less_0 := by decide +kernel
theorem DX8_less_1 : cX8_less.data.toList.drop 1 = TX8_less_1 := dr1 DX8_less_0
theorem DX8_less_2 : cX8_less.data.toList.drop 2 = TX8_less_2 := dr1 DX8_less_1
theorem DX8_less_4 : cX8_less.data.toList.drop 4 = TX8_less_4 := dr2 DX8_less_2
theorem DX8_less_5 : cX8_less.data.toList.drop 5 = TX8_less_5 := dr1 DX8_less_4
theorem DX8_less_6 : cX8_less.data.toList.drop 6 = TX8_less_6 := dr1 DX8_less_5
theorem DX8_less_7 : cX8_less.data.toList.drop 7 = TX8_less_7 := dr1 DX8_less_6
theorem DX8_less_8 : cX8_less.data.toList.drop 8 = TX8_less_8 := dr1 DX8_less_7
theorem DX8_less_10 : cX8_less.data.toList.drop 10 = TX8_less_10 := dr2 DX8_less_8
theorem DX8_less_12 : cX8_less.data.toList.drop 12 = TX8_less_12 := dr2 DX8_less_10
theorem DX8_less_13 : cX8_less.data.toList.drop 13 = TX8_less_13 := dr1 DX8_less_12
theorem DX8_less_14 : cX8_less.data.toList.drop 14 = TX8_less_14 := dr1 DX8_less_13
theorem DX8_less_17 : cX8_less.data.toList.drop 17 = TX8_less_17 := dr3 DX8_less_14
theorem DX8_less_18 : cX8_less.data.toList.drop 18 = TX8_less_18 := dr1 DX8_less_17
theorem DX8_less_20 : cX8_less.data.toList.drop 20 = TX8_less_20 := dr2 DX8_less_18
theorem DX8_less_21 : cX8_less.data.toList.drop 21 = TX8_less_21 := dr1 DX8_less_20
theorem DX8_less_22 : cX8_less.data.toList.drop 22 = TX8_less_22 := dr1 DX8_less_21
theorem DX8_less_23 : cX8_less.data.toList.drop 23 = TX8_less_23 := dr1 DX8_less_22
theorem DX8_less_25 : cX8_less.data.toList.drop 25 = TX8_less_25 := dr2 DX8_less_23
theorem DX8_less_26 : cX8_less.data.toList.drop 26 = TX8_less_26 := dr1 DX8_less_25
theorem DX8_less_27 : cX8_less.data.toList.drop 27 = TX8_less_27 := dr1 DX8_less_26
theorem DX8_less_30 : cX8_less.data.toList.drop 30 = TX8_less_30 := dr3 DX8_less_27
theorem DX8_less_31 : cX8_less.data.toList.drop 31 = TX8_less_31 := dr1 DX8_less_30
theorem DX8_less_33 : cX8_less.data.toList.drop 33 = TX8_less_33 := dr2 DX8_less_31
theorem DX8_less_34 : cX8_less.data.toList.drop 34 = TX8_less_34 := dr1 DX8_less_33
theorem DX8_less_37 : cX8_less.data.toList.drop 37 = TX8_less_37 := dr3 DX8_less_34
theorem DX8_less_38 : cX8_less.data.toList.drop 38 = TX8_less_38 := dr1 DX8_less_37
theorem DX8_less_39 : cX8_less.data.toList.drop 39 = TX8_less_39 := dr1 DX8_less_38
theorem DX8_less_41 : cX8_less.data.toList.drop 41 = TX8_less_41 := dr2 DX8_less_39
theorem DX8_less_43 : cX8_less.data.toList.drop 43 = TX8_less_43 := dr2 DX8_less_41
theorem DX8_less_46 : cX8_less.data.toList.drop 46 = TX8_less_46 := dr3 DX8_less_43
theorem DX8_less_47 : cX8_less.data.toList.drop 47 = TX8_less_47 := dr1 DX8_less_46
theorem DX8_less_50 : cX8_less.data.toList.drop 50 = TX8_less_50 := dr3 DX8_less_47
theorem DX8_less_51 : cX8_less.data.toList.drop 51 = TX8_less_51 := dr1 DX8_less_50
theorem DX8_less_52 : cX8_less.data.toList.drop 52 = TX8_less_52 := dr1 DX8_less_51
theorem DX8_less_53 : cX8_less.data.toList.drop 53 = TX8_less_53 := dr1 DX8_less_52
theorem DX8_less_55 : cX8_less.data.toList.drop 55 = TX8_less_55 := dr2 DX8_less_53
theorem DX8_less_57 : cX8_less.data.toList.drop 57 = TX8_less_57 := dr2 DX8_less_55
theorem DX8_less_58 : cX8_less.data.toList.drop 58 = TX8_less_58 := dr1 DX8_less_57
theorem DX8_less_60 : cX8_less.data.toList.drop 60 = TX8_less_60 := dr2 DX8_less_58
theorem DX8_less_61 : cX8_less.data.toList.drop 61 = TX8_less_61 := dr1 DX8_less_60
theorem DX8_less_62 : cX8_less.data.toList.drop 62 = TX8_less_62 := dr1 DX8_less_61
theorem DX8_less_63 : cX8_less.data.toList.drop 63 = TX8_less_63 := dr1 DX8_less_62
theorem DX8_less_66 : cX8_less.data.toList.drop 66 = TX8_less_66 := dr3 DX8_less_63
theorem DX8_less_69 : cX8_less.data.toList.drop 69 = TX8_less_69 := dr3 DX8_less_66
theorem DX8_less_70 : cX8_less.data.toList.drop 70 = TX8_less_70 := dr1 DX8_less_69
theorem DX8_less_71 : cX8_less.data.toList.drop 71 = TX8_less_71 := dr1 DX8_less_70
theorem DX8_less_72 : cX8_less.data.toList.drop 72 = TX8_less_72 := dr1 DX8_less_71
theorem DX8_less_73 : cX8_less.data.toList.drop 73 = TX8_less_73 := dr1 DX8_less_72
theorem DX8_less_76 : cX8_less.data.toList.drop 76 = TX8_less_76 := dr3 DX8_less_73
theorem dX8_less_0 : decode cX8_less 0 = .ok (.aload_n 0, 1) := do_2a DX8_less_0
theorem dX8_less_1 : decode cX8_less 1 = .ok (.arraylength, 1) := do_be DX8_less_1
theorem dX8_less_2 : decode cX8_less 2 = .ok (.newarray .int, 2) := by decide +kernel
theorem dX8_less_4 : decode cX8_less 4 = .ok (.astore_n 2, 1) := do_4d DX8_less_4
theorem dX8_less_5 : decode cX8_less 5 = .ok (.iconst 0, 1) := do_03 DX8_less_5
theorem dX8_less_6 : decode cX8_less 6 = .ok (.istore_n 3, 1) := do_3e DX8_less_6
theorem dX8_less_7 : decode cX8_less 7 = .ok (.iconst 1, 1) := do_04 DX8_less_7
theorem dX8_less_8 : decode cX8_less 8 = .ok (.istore 4, 2) := do_36 DX8_less_8
theorem dX8_less_10 : decode cX8_less 10 = .ok (.iload 4, 2) := do_15 DX8_less_10
theorem dX8_less_12 : decode cX8_less 12 = .ok (.aload_n 0, 1) := do_2a DX8_less_12
theorem dX8_less_13 : decode cX8_less 13 = .ok (.arraylength, 1) := do_be DX8_less_13
theorem dX8_less_14 : decode cX8_less 14 = .ok (.if_icmp .ge 55, 3) := do_a2 DX8_less_14 (by decide +kernel)
theorem dX8_less_17 : decode cX8_less 17 = .ok (.aload_n 0, 1) := do_2a DX8_less_17
theorem dX8_less_18 : decode cX8_less 18 = .ok (.iload 4, 2) := do_15 DX8_less_18
theorem dX8_less_20 : decode cX8_less 20 = .ok (.iaload, 1) := do_2e DX8_less_20
theorem dX8_less_21 : decode cX8_less 21 = .ok (.iload_n 3, 1) := do_1d DX8_less_21
theorem dX8_less_22 : decode cX8_less 22 = .ok (.isub, 1) := do_64 DX8_less_22
theorem dX8_less_23 : decode cX8_less 23 = .ok (.iload 4, 2) := do_15 DX8_less_23
theorem dX8_less_25 : decode cX8_less 25 = .ok (.aload_n 1, 1) := do_2b DX8_less_25
theorem dX8_less_26 : decode cX8_less 26 = .ok (.arraylength, 1) := do_be DX8_less_26
theorem dX8_less_27 : decode cX8_less 27 = .ok (.if_icmp .ge 10, 3) := do_a2 DX8_less_27 (by decide +kernel)
theorem dX8_less_30 : decode cX8_less 30 = .ok (.aload_n 1, 1) := do_2b DX8_less_30
theorem dX8_less_31 : decode cX8_less 31 = .ok (.iload 4, 2) := do_15 DX8_less_31
theorem dX8_less_33 : decode cX8_less 33 = .ok (.iaload, 1) := do_2e DX8_less_33
theorem dX8_less_34 : decode cX8_less 34 = .ok (.goto 4, 3) := do_a7 DX8_less_34 (by decide +kernel)
theorem dX8_less_37 : decode cX8_less 37 = .ok (.iconst 0, 1) := do_03 DX8_less_37
theorem dX8_less_38 : decode cX8_less 38 = .ok (.isub, 1) := do_64 DX8_less_38
theorem dX8_less_39 : decode cX8_less 39 = .ok (.istore 5, 2) := do_36 DX8_less_39
theorem dX8_less_41 : decode cX8_less 41 = .ok (.iload 5, 2) := do_15 DX8_less_41
theorem dX8_less_43 : decode cX8_less 43 = .ok (.ifCond .ge 7, 3) := do_9c DX8_less_43 (by decide +kernel)
theorem dX8_less_46 : decode cX8_less 46 = .ok (.iconst 1, 1) := do_04 DX8_less_46
theorem dX8_less_47 : decode cX8_less 47 = .ok (.goto 4, 3) := do_a7 DX8_less_47 (by decide +kernel)
theorem dX8_less_50 : decode cX8_less 50 = .ok (.iconst 0, 1) := do_03 DX8_less_50
theorem dX8_less_51 : decode cX8_less 51 = .ok (.istore_n 3, 1) := do_3e DX8_less_51
theorem dX8_less_52 : decode cX8_less 52 = .ok (.aload_n 2, 1) := do_2c DX8_less_52
theorem dX8_less_53 : decode cX8_less 53 = .ok (.iload 4, 2) := do_15 DX8_less_53
theorem dX8_less_55 : decode cX8_less 55 = .ok (.iload 5, 2) := do_15 DX8_less_55
theorem dX8_less_57 : decode cX8_less 57 = .ok (.iload_n 3, 1) := do_1d DX8_less_57
theorem dX8_less_58 : decode cX8_less 58 = .ok (.bipush 30, 2) := do_10 DX8_less_58 (by decide +kernel)
theorem dX8_less_60 : decode cX8_less 60 = .ok (.ishl, 1) := do_78 DX8_less_60
theorem dX8_less_61 : decode cX8_less 61 = .ok (.iadd, 1) := do_60 DX8_less_61
theorem dX8_less_62 : decode cX8_less 62 = .ok (.iastore, 1) := do_4f DX8_less_62
theorem dX8_less_63 : decode cX8_less 63 = .ok (.iinc 4 1, 3) := do_84 DX8_less_63
theorem dX8_less_66 : decode cX8_less 66 = .ok (.goto (-56), 3) := do_a7 DX8_less_66 (by decide +kernel)
theorem dX8_less_69 : decode cX8_less 69 = .ok (.aload_n 0, 1) := do_2a DX8_less_69
theorem dX8_less_70 : decode cX8_less 70 = .ok (.iconst 0, 1) := do_03 DX8_less_70
theorem dX8_less_71 : decode cX8_less 71 = .ok (.iaload, 1) := do_2e DX8_less_71
theorem dX8_less_72 : decode cX8_less 72 = .ok (.aload_n 2, 1) := do_2c DX8_less_72
theorem dX8_less_73 : decode cX8_less 73 = .ok (.invokestatic 55, 3) := do_b8 DX8_less_73
theorem dX8_less_76 : decode cX8_less 76 = .ok (.areturn, 1) := do_b0 DX8_less_76
def TX8_minus_13 : List UInt8 := []
def TX8_minus_12 : List UInt8 := 176 :: TX8_minus_13
def TX8_minus_9 : List UInt8 := 184 :: 0 :: 81 :: TX8_minus_12
def TX8_minus_6 : List UInt8 := 184 :: 0 :: 77 :: TX8_minus_9
def TX8_minus_5 : List UInt8 := 116 :: TX8_minus_6
def TX8_minus_4 : List UInt8 := 46 :: TX8_minus_5
def TX8_minus_3 : List UInt8 := 3 :: TX8_minus_4
def TX8_minus_2 : List UInt8 := 43 :: TX8_minus_3
def TX8_minus_1 : List UInt8 := 43 :: TX8_minus_2
def TX8_minus_0 : List UInt8 := 42 :: TX8_minus_1
theorem DX8_minus_0 : cX8_minus.data.toList.drop 0 = TX8_minus_0 := by decide +kernel
theorem DX8_minus_1 : cX8_minus.data.toList.drop 1 = TX8_minus_1 := dr1 DX8_minus_0
theorem DX8_minus_2 : cX8_minus.data.toList.drop 2 = TX8_minus_2 := dr1 DX8_minus_1
theorem DX8_minus_3 : cX8_minus.data.toList.drop 3 = TX8_minus_3 := dr1 DX8_minus_2
theorem DX8_minus_4 : cX8_minus.data.toList.drop 4 = TX8_minus_4 := dr1 DX8_minus_3
theorem DX8_minus_5 : cX8_minus.data.toList.drop 5 = TX8_minus_5 := dr1 DX8_minus_4
theorem DX8_minus_6 : cX8_minus.data.toList.drop 6 = TX8_minus_6 := dr1 DX8_minus_5
theorem DX8_minus_9 : cX8_minus.data.toList.drop 9 = TX8_minus_9 := dr3 DX8_minus_6
theorem DX8_minus_12 : cX8_minus.data.toList.drop 12 = TX8_minus_12 := dr3 DX8_minus_9
theorem dX8_minus_0 : decode cX8_minus 0 = .ok (.aload_n 0, 1) := do_2a DX8_minus_0
theorem dX8_minus_1 : decode cX8_minus 1 = .ok (.aload_n 1, 1) := do_2b DX8_minus_1
theorem dX8_minus_2 : decode cX8_minus 2 = .ok (.aload_n 1, 1) := do_2b DX8_minus_2
theorem dX8_minus_3 : decode cX8_minus 3 = .ok (.iconst 0, 1) := do_03 DX8_minus_3
theorem dX8_minus_4 : decode cX8_minus 4 = .ok (.iaload, 1) := do_2e DX8_minus_4
theorem dX8_minus_5 : decode cX8_minus 5 = .ok (.ineg, 1) := do_74 DX8_minus_5
theorem dX8_minus_6 : decode cX8_minus 6 = .ok (.invokestatic 77, 3) := do_b8 DX8_minus_6
theorem dX8_minus_9 : decode cX8_minus 9 = .ok (.invokestatic 81, 3) := do_b8 DX8_minus_9
theorem dX8_minus_12 : decode cX8_minus 12 = .ok (.areturn, 1) := do_b0 DX8_minus_12
def TX8_times_111 : List UInt8 := []
def TX8_times_110 : List UInt8 := 176 :: TX8_times_111
def TX8_times_107 : List UInt8 := 184 :: 0 :: 55 :: TX8_times_110
def TX8_times_106 : List UInt8 := 44 :: TX8_times_107
def TX8_times_105 : List UInt8 := 104 :: TX8_times_106
def TX8_times_104 : List UInt8 := 46 :: TX8_times_105
def TX8_times_103 : List UInt8 := 3 :: TX8_times_104
def TX8_times_102 : List UInt8 := 43 :: TX8_times_103
def TX8_times_101 : List UInt8 := 46 :: TX8_times_102
def TX8_times_100 : List UInt8 := 3 :: TX8_times_101
def TX8_times_99 : List UInt8 := 42 :: TX8_times_100
def TX8_times_96 : List UInt8 := 167 :: 255 :: 170 :: TX8_times_99
def TX8_times_93 : List UInt8 := 132 :: 3 :: 1 :: TX8_times_96
def TX8_times_92 : List UInt8 := 79 :: TX8_times_93
def TX8_times_91 : List UInt8 := 136 :: TX8_times_92
def TX8_times_89 : List UInt8 := 22 :: 4 :: TX8_times_91
def TX8_times_88 : List UInt8 := 100 :: TX8_times_89
def TX8_times_87 : List UInt8 := 4 :: TX8_times_88
def TX8_times_86 : List UInt8 := 96 :: TX8_times_87
def TX8_times_85 : List UInt8 := 190 :: TX8_times_86
def TX8_times_84 : List UInt8 := 43 :: TX8_times_85
def TX8_times_83 : List UInt8 := 29 :: TX8_times_84
def TX8_times_82 : List UInt8 := 44 :: TX8_times_83
def TX8_times_79 : List UInt8 := 167 :: 255 :: 199 :: TX8_times_82
def TX8_times_76 : List UInt8 := 132 :: 6 :: 1 :: TX8_times_79
def TX8_times_74 : List UInt8 := 55 :: 4 :: TX8_times_76
def TX8_times_73 : List UInt8 := 123 :: TX8_times_74
def TX8_times_71 : List UInt8 := 16 :: 30 :: TX8_times_73
def TX8_times_69 : List UInt8 := 22 :: 4 :: TX8_times_71
def TX8_times_68 : List UInt8 := 79 :: TX8_times_69
def TX8_times_67 : List UInt8 := 136 :: TX8_times_68
def TX8_times_66 : List UInt8 := 127 :: TX8_times_67
def TX8_times_63 : List UInt8 := 20 :: 0 :: 53 :: TX8_times_66
def TX8_times_61 : List UInt8 := 22 :: 4 :: TX8_times_63
def TX8_times_60 : List UInt8 := 100 :: TX8_times_61
def TX8_times_59 : List UInt8 := 4 :: TX8_times_60
def TX8_times_58 : List UInt8 := 96 :: TX8_times_59
def TX8_times_56 : List UInt8 := 21 :: 6 :: TX8_times_58
def TX8_times_55 : List UInt8 := 29 :: TX8_times_56
def TX8_times_54 : List UInt8 := 44 :: TX8_times_55
def TX8_times_52 : List UInt8 := 55 :: 4 :: TX8_times_54
def TX8_times_51 : List UInt8 := 97 :: TX8_times_52
def TX8_times_50 : List UInt8 := 97 :: TX8_times_51
def TX8_times_49 : List UInt8 := 133 :: TX8_times_50
def TX8_times_48 : List UInt8 := 46 :: TX8_times_49
def TX8_times_47 : List UInt8 := 100 :: TX8_times_48
def TX8_times_46 : List UInt8 := 4 :: TX8_times_47
def TX8_times_45 : List UInt8 := 96 :: TX8_times_46
def TX8_times_43 : List UInt8 := 21 :: 6 :: TX8_times_45
def TX8_times_42 : List UInt8 := 29 :: TX8_times_43
def TX8_times_41 : List UInt8 := 44 :: TX8_times_42
def TX8_times_40 : List UInt8 := 105 :: TX8_times_41
def TX8_times_39 : List UInt8 := 133 :: TX8_times_40
def TX8_times_38 : List UInt8 := 46 :: TX8_times_39
def TX8_times_36 : List UInt8 := 21 :: 6 :: TX8_times_38
def TX8_times_35 : List UInt8 := 43 :: TX8_times_36
def TX8_times_34 : List UInt8 := 133 :: TX8_times_35
def TX8_times_33 : List UInt8 := 46 :: TX8_times_34
def TX8_times_32 : List UInt8 := 29 :: TX8_times_33
def TX8_times_31 : List UInt8 := 42 :: TX8_times_32
def TX8_times_29 : List UInt8 := 22 :: 4 :: TX8_times_31
def TX8_times_26 : List UInt8 := 162 :: 0 :: 56 :: TX8_times_29
def TX8_times_25 : List UInt8 := 190 :: TX8_times_26
def TX8_times_24 : List UInt8 := 43 :: TX8_times_25
def TX8_times_22 : List UInt8 := 21 :: 6 :: TX8_times_24
def TX8_times_20 : List UInt8 := 54 :: 6 :: TX8_times_22
def TX8_times_19 : List UInt8 := 4 :: TX8_times_20
def TX8_times_17 : List UInt8 := 55 :: 4 :: TX8_times_19
def TX8_times_16 : List UInt8 := 9 :: TX8_times_17
def TX8_times_13 : List UInt8 := 162 :: 0 :: 86 :: TX8_times_16
def TX8_times_12 : List UInt8 := 190 :: TX8_times_13
def TX8_times_11 : List UInt8 := 42 :: TX8_times_12
def TX8_times_10 : List UInt8 := 29 :: TX8_times_11
def TX8_times_9 : List UInt8 := 62 :: TX8_times_10
def TX8_times_8 : List UInt8 := 4 :: TX8_times_9
def TX8_times_7 : List UInt8 := 77 :: TX8_times_8
def TX8_times_5 : List UInt8 := 188 :: 10 :: TX8_times_7
def TX8_times_4 : List UInt8 := 96 :: TX8_times_5
def TX8_times_3 : List UInt8 := 190 :: TX8_times_4
def TX8_times_2 : List UInt8 := 43 :: TX8_times_3
def TX8_times_1 : List UInt8 := 190 :: TX8_times_2
def TX8_times_0 : List UInt8 := 42 :: TX8_times_1
theorem DX8_times_0 : cX8_times.data.toList.drop 0 = TX8_times_0 := by decide +kernel
theorem DX8_times_1 : cX8_times.data.toList.drop 1 = TX8_times_1 := dr1 DX8_times_0
theorem DX8_times_2 : cX8_times.data.toList.drop 2 = TX8_times_2 := dr1 DX8_times_1
theorem DX8_times_3 : cX8_times.data.toList.drop 3 = TX8_times_3 := dr1 DX8_times_2
theorem DX8_times_4 : cX8_times.data.toList.drop 4 = TX8_times_4 := dr1 DX8_times_3
theorem DX8_times_5 : cX8_times.data.toList.drop 5 = TX8_times_5 := dr1 DX8_times_4
theorem DX8_times_7 : cX8_times.data.toList.drop 7 = TX8_times_7 := dr2 DX8_times_5
theorem DX8_times_8 : cX8_times.data.toList.drop 8 = TX8_times_8 := dr1 DX8_times_7
theorem DX8_times_9 : cX8_times.data.toList.drop 9 = TX8_times_9 := dr1 DX8_times_8
theorem DX8_times_10 : cX8_times.data.toList.drop 10 = TX8_times_10 := dr1 DX8_times_9
theorem DX8_times_11 : cX8_times.data.toList.drop 11 = TX8_times_11 := dr1 DX8_times_10
theorem DX8_times_12 : cX8_times.data.toList.drop 12 = TX8_times_12 := dr1 DX8_times_11
theorem DX8_times_13 : cX8_times.data.toList.drop 13 = TX8_times_13 := dr1 DX8_times_12
theorem DX8_times_16 : cX8_times.data.toList.drop 16 = TX8_times_16 := dr3 DX8_times_13
theorem DX8_times_17 : cX8_times.data.toList.drop 17 = TX8_times_17 := dr1 DX8_times_16
theorem DX8_times_19 : cX8_times.data.toList.drop 19 = TX8_times_19 := dr2 DX8_times_17
theorem DX8_times_20 : cX8_times.data.toList.drop 20 = TX8_times_20 := dr1 DX8_times_19
theorem DX8_times_22 : cX8_times.data.toList.drop 22 = TX8_times_22 := dr2 DX8_times_20
theorem DX8_times_24 : cX8_times.data.toList.drop 24 = TX8_times_24 := dr2 DX8_times_22
theorem DX8_times_25 : cX8_times.data.toList.drop 25 = TX8_times_25 := dr1 DX8_times_24
theorem DX8_times_26 : cX8_times.data.toList.drop 26 = TX8_times_26 := dr1 DX8_times_25
theorem DX8_times_29 : cX8_times.data.toList.drop 29 = TX8_times_29 := dr3 DX8_times_26
theorem DX8_times_31 : cX8_times.data.toList.drop 31 = TX8_times_31 := dr2 DX8_times_29
theorem DX8_times_32 : cX8_times.data.toList.drop 32 = TX8_times_32 := dr1 DX8_times_31
theorem DX8_times_33 : cX8_times.data.toList.drop 33 = TX8_times_33 := dr1 DX8_times_32
theorem DX8_times_34 : cX8_times.data.toList.drop 34 = TX8_times_34 := dr1 DX8_times_33
theorem DX8_times_35 : cX8_times.data.toList.drop 35 = TX8_times_35 := dr1 DX8_times_34
theorem DX8_times_36 : cX8_times.data.toList.drop 36 = TX8_times_36 := dr1 DX8_times_35
theorem DX8_times_38 : cX8_times.data.toList.drop 38 = TX8_times_38 := dr2 DX8_times_36
theorem DX8_times_39 : cX8_times.data.toList.drop 39 = TX8_times_39 := dr1 DX8_times_38
theorem DX8_times_40 : cX8_times.data.toList.drop 40 = TX8_times_40 := dr1 DX8_times_39
theorem DX8_times_41 : cX8_times.data.toList.drop 41 = TX8_times_41 := dr1 DX8_times_40
theorem DX8_times_42 : cX8_times.data.toList.drop 42 = TX8_times_42 := dr1 DX8_times_41
theorem DX8_times_43 : cX8_times.data.toList.drop 43 = TX8_times_43 := dr1 DX8_times_42
theorem DX8_times_45 : cX8_times.data.toList.drop 45 = TX8_times_45 := dr2 DX8_times_43
theorem DX8_times_46 : cX8_times.data.toList.drop 46 = TX8_times_46 := dr1 DX8_times_45
theorem DX8_times_47 : cX8_times.data.toList.drop 47 = TX8_times_47 := dr1 DX8_times_46
theorem DX8_times_48 : cX8_times.data.toList.drop 48 = TX8_times_48 := dr1 DX8_times_47
theorem DX8_times_49 : cX8_times.data.toList.drop 49 = TX8_times_49 := dr1 DX8_times_48
theorem DX8_times_50 : cX8_times.data.toList.drop 50 = TX8_times_50 := dr1 DX8_times_49
theorem DX8_times_51 : cX8_times.data.toList.drop 51 = TX8_times_51 := dr1 DX8_times_50
theorem DX8_times_52 : cX8_times.data.toList.drop 52 = TX8_times_52 := dr1 DX8_times_51
theorem DX8_times_54 : cX8_times.data.toList.drop 54 = TX8_times_54 := dr2 DX8_times_52
theorem DX8_times_55 : cX8_times.data.toList.drop 55 = TX8_times_55 := dr1 DX8_times_54
theorem DX8_times_56 : cX8_times.data.toList.drop 56 = TX8_times_56 := dr1 DX8_times_55
theorem DX8_times_58 : cX8_times.data.toList.drop 58 = TX8_times_58 := dr2 DX8_times_56
theorem DX8_times_59 : cX8_times.data.toList.drop 59 = TX8_times_59 := dr1 DX8_times_58
theorem DX8_times_60 : cX8_times.data.toList.drop 60 = TX8_times_60 := dr1 DX8_times_59
theorem DX8_times_61 : cX8_times.data.toList.drop 61 = TX8_times_61 := dr1 DX8_times_60
theorem DX8_times_63 : cX8_times.data.toList.drop 63 = TX8_times_63 := dr2 DX8_times_61
theorem DX8_times_66 : cX8_times.data.toList.drop 66 = TX8_times_66 := dr3 DX8_times_63
theorem DX8_times_67 : cX8_times.data.toList.drop 67 = TX8_times_67 := dr1 DX8_times_66
theorem DX8_times_68 : cX8_times.data.toList.drop 68 = TX8_times_68 := dr1 DX8_times_67
theorem DX8_times_69 : cX8_times.data.toList.drop 69 = TX8_times_69 := dr1 DX8_times_68
theorem DX8_times_71 : cX8_times.data.toList.drop 71 = TX8_times_71 := dr2 DX8_times_69
theorem DX8_times_73 : cX8_times.data.toList.drop 73 = TX8_times_73 := dr2 DX8_times_71
theorem DX8_times_74 : cX8_times.data.toList.drop 74 = TX8_times_74 := dr1 DX8_times_73
theorem DX8_times_76 : cX8_times.data.toList.drop 76 = TX8_times_76 := dr2 DX8_times_74
theorem DX8_times_79 : cX8_times.data.toList.drop 79 = TX8_times_79 := dr3 DX8_times_76
theorem DX8_times_82 : cX8_times.data.toList.drop 82 = TX8_times_82 := dr3 DX8_times_79
theorem DX8_times_83 : cX8_times.data.toList.drop 83 = TX8_times_83 := dr1 DX8_times_82
theorem DX8_times_84 : cX8_times.data.toList.drop 84 = TX8_times_84 := dr1 DX8_times_83
theorem DX8_times_85 : cX8_times.data.toList.drop 85 = TX8_times_85 := dr1 DX8_times_84
theorem DX8_times_86 : cX8_times.data.toList.drop 86 = TX8_times_86 := dr1 DX8_times_85
theorem DX8_times_87 : cX8_times.data.toList.drop 87 = TX8_times_87 := dr1 DX8_times_86
theorem DX8_times_88 : cX8_times.data.toList.drop 88 = TX8_times_88 := dr1 DX8_times_87
theorem DX8_times_89 : cX8_times.data.toList.drop 89 = TX8_times_89 := dr1 DX8_times_88
theorem DX8_times_91 : cX8_times.data.toList.drop 91 = TX8_times_91 := dr2 DX8_times_89
theorem DX8_times_92 : cX8_times.data.toList.drop 92 = TX8_times_92 := dr1 DX8_times_91
theorem DX8_times_93 : cX8_times.data.toList.drop 93 = TX8_times_93 := dr1 DX8_times_92
theorem DX8_times_96 : cX8_times.data.toList.drop 96 = TX8_times_96 := dr3 DX8_times_93
theorem DX8_times_99 : cX8_times.data.toList.drop 99 = TX8_times_99 := dr3 DX8_times_96
theorem DX8_times_100 : cX8_times.data.toList.drop 100 = TX8_times_100 := dr1 DX8_times_99
theorem DX8_times_101 : cX8_times.data.toList.drop 101 = TX8_times_101 := dr1 DX8_times_100
theorem DX8_times_102 : cX8_times.data.toList.drop 102 = TX8_times_102 := dr1 DX8_times_101
theorem DX8_times_103 : cX8_times.data.toList.drop 103 = TX8_times_103 := dr1 DX8_times_102
theorem DX8_times_104 : cX8_times.data.toList.drop 104 = TX8_times_104 := dr1 DX8_times_103
theorem DX8_times_105 : cX8_times.data.toList.drop 105 = TX8_times_105 := dr1 DX8_times_104
theorem DX8_times_106 : cX8_times.data.toList.drop 106 = TX8_times_106 := dr1 DX8_times_105
theorem DX8_times_107 : cX8_times.data.toList.drop 107 = TX8_times_107 := dr1 DX8_times_106
theorem DX8_times_110 : cX8_times.data.toList.drop 110 = TX8_times_110 := dr3 DX8_times_107
theorem dX8_times_0 : decode cX8_times 0 = .ok (.aload_n 0, 1) := do_2a DX8_times_0
theorem dX8_times_1 : decode cX8_times 1 = .ok (.arraylength, 1) := do_be DX8_times_1
theorem dX8_times_2 : decode cX8_times 2 = .ok (.aload_n 1, 1) := do_2b DX8_times_2
theorem dX8_times_3 : decode cX8_times 3 = .ok (.arraylength, 1) := do_be DX8_times_3
theorem dX8_times_4 : decode cX8_times 4 = .ok (.iadd, 1) := do_60 DX8_times_4
theorem dX8_times_5 : decode cX8_times 5 = .ok (.newarray .int, 2) := by decide +kernel
theorem dX8_times_7 : decode cX8_times 7 = .ok (.astore_n 2, 1) := do_4d DX8_times_7
theorem dX8_times_8 : decode cX8_times 8 = .ok (.iconst 1, 1) := do_04 DX8_times_8
theorem dX8_times_9 : decode cX8_times 9 = .ok (.istore_n 3, 1) := do_3e DX8_times_9
theorem dX8_times_10 : decode cX8_times 10 = .ok (.iload_n 3, 1) := do_1d DX8_times_10
theorem dX8_times_11 : decode cX8_times 11 = .ok (.aload_n 0, 1) := do_2a DX8_times_11
theorem dX8_times_12 : decode cX8_times 12 = .ok (.arraylength, 1) := do_be DX8_times_12
theorem dX8_times_13 : decode cX8_times 13 = .ok (.if_icmp .ge 86, 3) := do_a2 DX8_times_13 (by decide +kernel)
theorem dX8_times_16 : decode cX8_times 16 = .ok (.lconst 0, 1) := do_09 DX8_times_16
theorem dX8_times_17 : decode cX8_times 17 = .ok (.lstore 4, 2) := do_37 DX8_times_17
theorem dX8_times_19 : decode cX8_times 19 = .ok (.iconst 1, 1) := do_04 DX8_times_19
theorem dX8_times_20 : decode cX8_times 20 = .ok (.istore 6, 2) := do_36 DX8_times_20
theorem dX8_times_22 : decode cX8_times 22 = .ok (.iload 6, 2) := do_15 DX8_times_22
theorem dX8_times_24 : decode cX8_times 24 = .ok (.aload_n 1, 1) := do_2b DX8_times_24
theorem dX8_times_25 : decode cX8_times 25 = .ok (.arraylength, 1) := do_be DX8_times_25
theorem dX8_times_26 : decode cX8_times 26 = .ok (.if_icmp .ge 56, 3) := do_a2 DX8_times_26 (by decide +kernel)
theorem dX8_times_29 : decode cX8_times 29 = .ok (.lload 4, 2) := do_16 DX8_times_29
theorem dX8_times_31 : decode cX8_times 31 = .ok (.aload_n 0, 1) := do_2a DX8_times_31
theorem dX8_times_32 : decode cX8_times 32 = .ok (.iload_n 3, 1) := do_1d DX8_times_32
theorem dX8_times_33 : decode cX8_times 33 = .ok (.iaload, 1) := do_2e DX8_times_33
theorem dX8_times_34 : decode cX8_times 34 = .ok (.i2l, 1) := do_85 DX8_times_34
theorem dX8_times_35 : decode cX8_times 35 = .ok (.aload_n 1, 1) := do_2b DX8_times_35
theorem dX8_times_36 : decode cX8_times 36 = .ok (.iload 6, 2) := do_15 DX8_times_36
theorem dX8_times_38 : decode cX8_times 38 = .ok (.iaload, 1) := do_2e DX8_times_38
theorem dX8_times_39 : decode cX8_times 39 = .ok (.i2l, 1) := do_85 DX8_times_39
theorem dX8_times_40 : decode cX8_times 40 = .ok (.lmul, 1) := do_69 DX8_times_40
theorem dX8_times_41 : decode cX8_times 41 = .ok (.aload_n 2, 1) := do_2c DX8_times_41
theorem dX8_times_42 : decode cX8_times 42 = .ok (.iload_n 3, 1) := do_1d DX8_times_42
theorem dX8_times_43 : decode cX8_times 43 = .ok (.iload 6, 2) := do_15 DX8_times_43
theorem dX8_times_45 : decode cX8_times 45 = .ok (.iadd, 1) := do_60 DX8_times_45
theorem dX8_times_46 : decode cX8_times 46 = .ok (.iconst 1, 1) := do_04 DX8_times_46
theorem dX8_times_47 : decode cX8_times 47 = .ok (.isub, 1) := do_64 DX8_times_47
theorem dX8_times_48 : decode cX8_times 48 = .ok (.iaload, 1) := do_2e DX8_times_48
theorem dX8_times_49 : decode cX8_times 49 = .ok (.i2l, 1) := do_85 DX8_times_49
theorem dX8_times_50 : decode cX8_times 50 = .ok (.ladd, 1) := do_61 DX8_times_50
theorem dX8_times_51 : decode cX8_times 51 = .ok (.ladd, 1) := do_61 DX8_times_51
theorem dX8_times_52 : decode cX8_times 52 = .ok (.lstore 4, 2) := do_37 DX8_times_52
theorem dX8_times_54 : decode cX8_times 54 = .ok (.aload_n 2, 1) := do_2c DX8_times_54
theorem dX8_times_55 : decode cX8_times 55 = .ok (.iload_n 3, 1) := do_1d DX8_times_55
theorem dX8_times_56 : decode cX8_times 56 = .ok (.iload 6, 2) := do_15 DX8_times_56
theorem dX8_times_58 : decode cX8_times 58 = .ok (.iadd, 1) := do_60 DX8_times_58
theorem dX8_times_59 : decode cX8_times 59 = .ok (.iconst 1, 1) := do_04 DX8_times_59
theorem dX8_times_60 : decode cX8_times 60 = .ok (.isub, 1) := do_64 DX8_times_60
theorem dX8_times_61 : decode cX8_times 61 = .ok (.lload 4, 2) := do_16 DX8_times_61
theorem dX8_times_63 : decode cX8_times 63 = .ok (.ldc2_w 53, 3) := by decide +kernel
theorem dX8_times_66 : decode cX8_times 66 = .ok (.land, 1) := do_7f DX8_times_66
theorem dX8_times_67 : decode cX8_times 67 = .ok (.l2i, 1) := do_88 DX8_times_67
theorem dX8_times_68 : decode cX8_times 68 = .ok (.iastore, 1) := do_4f DX8_times_68
theorem dX8_times_69 : decode cX8_times 69 = .ok (.lload 4, 2) := do_16 DX8_times_69
theorem dX8_times_71 : decode cX8_times 71 = .ok (.bipush 30, 2) := do_10 DX8_times_71 (by decide +kernel)
theorem dX8_times_73 : decode cX8_times 73 = .ok (.lshr, 1) := do_7b DX8_times_73
theorem dX8_times_74 : decode cX8_times 74 = .ok (.lstore 4, 2) := do_37 DX8_times_74
theorem dX8_times_76 : decode cX8_times 76 = .ok (.iinc 6 1, 3) := do_84 DX8_times_76
theorem dX8_times_79 : decode cX8_times 79 = .ok (.goto (-57), 3) := do_a7 DX8_times_79 (by decide +kernel)
theorem dX8_times_82 : decode cX8_times 82 = .ok (.aload_n 2, 1) := do_2c DX8_times_82
theorem dX8_times_83 : decode cX8_times 83 = .ok (.iload_n 3, 1) := do_1d DX8_times_83
theorem dX8_times_84 : decode cX8_times 84 = .ok (.aload_n 1, 1) := do_2b DX8_times_84
theorem dX8_times_85 : decode cX8_times 85 = .ok (.arraylength, 1) := do_be DX8_times_85
theorem dX8_times_86 : decode cX8_times 86 = .ok (.iadd, 1) := do_60 DX8_times_86
theorem dX8_times_87 : decode cX8_times 87 = .ok (.iconst 1, 1) := do_04 DX8_times_87
theorem dX8_times_88 : decode cX8_times 88 = .ok (.isub, 1) := do_64 DX8_times_88
theorem dX8_times_89 : decode cX8_times 89 = .ok (.lload 4, 2) := do_16 DX8_times_89
theorem dX8_times_91 : decode cX8_times 91 = .ok (.l2i, 1) := do_88 DX8_times_91
theorem dX8_times_92 : decode cX8_times 92 = .ok (.iastore, 1) := do_4f DX8_times_92
theorem dX8_times_93 : decode cX8_times 93 = .ok (.iinc 3 1, 3) := do_84 DX8_times_93
theorem dX8_times_96 : decode cX8_times 96 = .ok (.goto (-86), 3) := do_a7 DX8_times_96 (by decide +kernel)
theorem dX8_times_99 : decode cX8_times 99 = .ok (.aload_n 0, 1) := do_2a DX8_times_99
theorem dX8_times_100 : decode cX8_times 100 = .ok (.iconst 0, 1) := do_03 DX8_times_100
theorem dX8_times_101 : decode cX8_times 101 = .ok (.iaload, 1) := do_2e DX8_times_101
theorem dX8_times_102 : decode cX8_times 102 = .ok (.aload_n 1, 1) := do_2b DX8_times_102
theorem dX8_times_103 : decode cX8_times 103 = .ok (.iconst 0, 1) := do_03 DX8_times_103
theorem dX8_times_104 : decode cX8_times 104 = .ok (.iaload, 1) := do_2e DX8_times_104
theorem dX8_times_105 : decode cX8_times 105 = .ok (.imul, 1) := do_68 DX8_times_105
theorem dX8_times_106 : decode cX8_times 106 = .ok (.aload_n 2, 1) := do_2c DX8_times_106
theorem dX8_times_107 : decode cX8_times 107 = .ok (.invokestatic 55, 3) := do_b8 DX8_times_107
theorem dX8_times_110 : decode cX8_times 110 = .ok (.areturn, 1) := do_b0 DX8_times_110
def TX8_divide_47 : List UInt8 := []
def TX8_divide_46 : List UInt8 := 172 :: TX8_divide_47
def TX8_divide_45 : List UInt8 := 136 :: TX8_divide_46
def TX8_divide_44 : List UInt8 := 32 :: TX8_divide_45
def TX8_divide_41 : List UInt8 := 167 :: 255 :: 223 :: TX8_divide_44
def TX8_divide_38 : List UInt8 := 132 :: 4 :: 255 :: TX8_divide_41
def TX8_divide_37 : List UInt8 := 65 :: TX8_divide_38
def TX8_divide_36 : List UInt8 := 113 :: TX8_divide_37
def TX8_divide_35 : List UInt8 := 133 :: TX8_divide_36
def TX8_divide_34 : List UInt8 := 27 :: TX8_divide_35
def TX8_divide_33 : List UInt8 := 32 :: TX8_divide_34
def TX8_divide_32 : List UInt8 := 79 :: TX8_divide_33
def TX8_divide_31 : List UInt8 := 136 :: TX8_divide_32
def TX8_divide_30 : List UInt8 := 109 :: TX8_divide_31
def TX8_divide_29 : List UInt8 := 133 :: TX8_divide_30
def TX8_divide_28 : List UInt8 := 27 :: TX8_divide_29
def TX8_divide_27 : List UInt8 := 32 :: TX8_divide_28
def TX8_divide_25 : List UInt8 := 21 :: 4 :: TX8_divide_27
def TX8_divide_24 : List UInt8 := 42 :: TX8_divide_25
def TX8_divide_23 : List UInt8 := 65 :: TX8_divide_24
def TX8_divide_22 : List UInt8 := 129 :: TX8_divide_23
def TX8_divide_21 : List UInt8 := 133 :: TX8_divide_22
def TX8_divide_20 : List UInt8 := 46 :: TX8_divide_21
def TX8_divide_18 : List UInt8 := 21 :: 4 :: TX8_divide_20
def TX8_divide_17 : List UInt8 := 42 :: TX8_divide_18
def TX8_divide_16 : List UInt8 := 121 :: TX8_divide_17
def TX8_divide_14 : List UInt8 := 16 :: 30 :: TX8_divide_16
def TX8_divide_13 : List UInt8 := 32 :: TX8_divide_14
def TX8_divide_10 : List UInt8 := 158 :: 0 :: 34 :: TX8_divide_13
def TX8_divide_8 : List UInt8 := 21 :: 4 :: TX8_divide_10
def TX8_divide_6 : List UInt8 := 54 :: 4 :: TX8_divide_8
def TX8_divide_5 : List UInt8 := 100 :: TX8_divide_6
def TX8_divide_4 : List UInt8 := 4 :: TX8_divide_5
def TX8_divide_3 : List UInt8 := 190 :: TX8_divide_4
def TX8_divide_2 : List UInt8 := 42 :: TX8_divide_3
def TX8_divide_1 : List UInt8 := 65 :: TX8_divide_2
def TX8_divide_0 : List UInt8 := 9 :: TX8_divide_1
theorem DX8_divide_0 : cX8_divide.data.toList.drop 0 = TX8_divide_0 := by decide +kernel
theorem DX8_divide_1 : cX8_divide.data.toList.drop 1 = TX8_divide_1 := dr1 DX8_divide_0
theorem DX8_divide_2 : cX8_divide.data.toList.drop 2 = TX8_divide_2 := dr1 DX8_divide_1
theorem DX8_divide_3 : cX8_divide.data.toList.drop 3 = TX8_divide_3 := dr1 DX8_divide_2
theorem DX8_divide_4 : cX8_divide.data.toList.drop 4 = TX8_divide_4 := dr1 DX8_divide_3
theorem DX8_divide_5 : cX8_divide.data.toList.drop 5 = TX8_divide_5 := dr1 DX8_divide_4
theorem DX8_divide_6 : cX8_divide.data.toList.drop 6 = TX8_divide_6 := dr1 DX8_divide_5
theorem DX8_divide_8 : cX8_divide.data.toList.drop 8 = TX8_divide_8 := dr2 DX8_divide_6
theorem DX8_divide_10 : cX8_divide.data.toList.drop 10 = TX8_divide_10 := dr2 DX8_divide_8
theorem DX8_divide_13 : cX8_divide.data.toList.drop 13 = TX8_divide_13 := dr3 DX8_divide_10
theorem DX8_divide_14 : cX8_divide.data.toList.drop 14 = TX8_divide_14 := dr1 DX8_divide_13
theorem DX8_divide_16 : cX8_divide.data.toList.drop 16 = TX8_divide_16 := dr2 DX8_divide_14
theorem DX8_divide_17 : cX8_divide.data.toList.drop 17 = TX8_divide_17 := dr1 DX8_divide_16
theorem DX8_divide_18 : cX8_divide.data.toList.drop 18 = TX8_divide_18 := dr1 DX8_divide_17
theorem DX8_divide_20 : cX8_divide.data.toList.drop 20 = TX8_divide_20 := dr2 DX8_divide_18
theorem DX8_divide_21 : cX8_divide.data.toList.drop 21 = TX8_divide_21 := dr1 DX8_divide_20
theorem DX8_divide_22 : cX8_divide.data.toList.drop 22 = TX8_divide_22 := dr1 DX8_divide_21
theorem DX8_divide_23 : cX8_divide.data.toList.drop 23 = TX8_divide_23 := dr1 DX8_divide_22
theorem DX8_divide_24 : cX8_divide.data.toList.drop 24 = TX8_divide_24 := dr1 DX8_divide_23
theorem DX8_divide_25 : cX8_divide.data.toList.drop 25 = TX8_divide_25 := dr1 DX8_divide_24
theorem DX8_divide_27 : cX8_divide.data.toList.drop 27 = TX8_divide_27 := dr2 DX8_divide_25
theorem DX8_divide_28 : cX8_divide.data.toList.drop 28 = TX8_divide_28 := dr1 DX8_divide_27
theorem DX8_divide_29 : cX8_divide.data.toList.drop 29 = TX8_divide_29 := dr1 DX8_divide_28
theorem DX8_divide_30 : cX8_divide.data.toList.drop 30 = TX8_divide_30 := dr1 DX8_divide_29
theorem DX8_divide_31 : cX8_divide.data.toList.drop 31 = TX8_divide_31 := dr1 DX8_divide_30
theorem DX8_divide_32 : cX8_divide.data.toList.drop 32 = TX8_divide_32 := dr1 DX8_divide_31
theorem DX8_divide_33 : cX8_divide.data.toList.drop 33 = TX8_divide_33 := dr1 DX8_divide_32
theorem DX8_divide_34 : cX8_divide.data.toList.drop 34 = TX8_divide_34 := dr1 DX8_divide_33
theorem DX8_divide_35 : cX8_divide.data.toList.drop 35 = TX8_divide_35 := dr1 DX8_divide_34
theorem DX8_divide_36 : cX8_divide.data.toList.drop 36 = TX8_divide_36 := dr1 DX8_divide_35
theorem DX8_divide_37 : cX8_divide.data.toList.drop 37 = TX8_divide_37 := dr1 DX8_divide_36
theorem DX8_divide_38 : cX8_divide.data.toList.drop 38 = TX8_divide_38 := dr1 DX8_divide_37
theorem DX8_divide_41 : cX8_divide.data.toList.drop 41 = TX8_divide_41 := dr3 DX8_divide_38
theorem DX8_divide_44 : cX8_divide.data.toList.drop 44 = TX8_divide_44 := dr3 DX8_divide_41
theorem DX8_divide_45 : cX8_divide.data.toList.drop 45 = TX8_divide_45 := dr1 DX8_divide_44
theorem DX8_divide_46 : cX8_divide.data.toList.drop 46 = TX8_divide_46 := dr1 DX8_divide_45
theorem dX8_divide_0 : decode cX8_divide 0 = .ok (.lconst 0, 1) := do_09 DX8_divide_0
theorem dX8_divide_1 : decode cX8_divide 1 = .ok (.lstore_n 2, 1) := do_41 DX8_divide_1
theorem dX8_divide_2 : decode cX8_divide 2 = .ok (.aload_n 0, 1) := do_2a DX8_divide_2
theorem dX8_divide_3 : decode cX8_divide 3 = .ok (.arraylength, 1) := do_be DX8_divide_3
theorem dX8_divide_4 : decode cX8_divide 4 = .ok (.iconst 1, 1) := do_04 DX8_divide_4
theorem dX8_divide_5 : decode cX8_divide 5 = .ok (.isub, 1) := do_64 DX8_divide_5
theorem dX8_divide_6 : decode cX8_divide 6 = .ok (.istore 4, 2) := do_36 DX8_divide_6
theorem dX8_divide_8 : decode cX8_divide 8 = .ok (.iload 4, 2) := do_15 DX8_divide_8
theorem dX8_divide_10 : decode cX8_divide 10 = .ok (.ifCond .le 34, 3) := do_9e DX8_divide_10 (by decide +kernel)
theorem dX8_divide_13 : decode cX8_divide 13 = .ok (.lload_n 2, 1) := do_20 DX8_divide_13
theorem dX8_divide_14 : decode cX8_divide 14 = .ok (.bipush 30, 2) := do_10 DX8_divide_14 (by decide +kernel)
theorem dX8_divide_16 : decode cX8_divide 16 = .ok (.lshl, 1) := do_79 DX8_divide_16
theorem dX8_divide_17 : decode cX8_divide 17 = .ok (.aload_n 0, 1) := do_2a DX8_divide_17
theorem dX8_divide_18 : decode cX8_divide 18 = .ok (.iload 4, 2) := do_15 DX8_divide_18
theorem dX8_divide_20 : decode cX8_divide 20 = .ok (.iaload, 1) := do_2e DX8_divide_20
theorem dX8_divide_21 : decode cX8_divide 21 = .ok (.i2l, 1) := do_85 DX8_divide_21
theorem dX8_divide_22 : decode cX8_divide 22 = .ok (.lor, 1) := do_81 DX8_divide_22
theorem dX8_divide_23 : decode cX8_divide 23 = .ok (.lstore_n 2, 1) := do_41 DX8_divide_23
theorem dX8_divide_24 : decode cX8_divide 24 = .ok (.aload_n 0, 1) := do_2a DX8_divide_24
theorem dX8_divide_25 : decode cX8_divide 25 = .ok (.iload 4, 2) := do_15 DX8_divide_25
theorem dX8_divide_27 : decode cX8_divide 27 = .ok (.lload_n 2, 1) := do_20 DX8_divide_27
theorem dX8_divide_28 : decode cX8_divide 28 = .ok (.iload_n 1, 1) := do_1b DX8_divide_28
theorem dX8_divide_29 : decode cX8_divide 29 = .ok (.i2l, 1) := do_85 DX8_divide_29
theorem dX8_divide_30 : decode cX8_divide 30 = .ok (.ldiv, 1) := do_6d DX8_divide_30
theorem dX8_divide_31 : decode cX8_divide 31 = .ok (.l2i, 1) := do_88 DX8_divide_31
theorem dX8_divide_32 : decode cX8_divide 32 = .ok (.iastore, 1) := do_4f DX8_divide_32
theorem dX8_divide_33 : decode cX8_divide 33 = .ok (.lload_n 2, 1) := do_20 DX8_divide_33
theorem dX8_divide_34 : decode cX8_divide 34 = .ok (.iload_n 1, 1) := do_1b DX8_divide_34
theorem dX8_divide_35 : decode cX8_divide 35 = .ok (.i2l, 1) := do_85 DX8_divide_35
theorem dX8_divide_36 : decode cX8_divide 36 = .ok (.lrem, 1) := do_71 DX8_divide_36
theorem dX8_divide_37 : decode cX8_divide 37 = .ok (.lstore_n 2, 1) := do_41 DX8_divide_37
theorem dX8_divide_38 : decode cX8_divide 38 = .ok (.iinc 4 (-1), 3) := do_84 DX8_divide_38
theorem dX8_divide_41 : decode cX8_divide 41 = .ok (.goto (-33), 3) := do_a7 DX8_divide_41 (by decide +kernel)
theorem dX8_divide_44 : decode cX8_divide 44 = .ok (.lload_n 2, 1) := do_20 DX8_divide_44
theorem dX8_divide_45 : decode cX8_divide 45 = .ok (.l2i, 1) := do_88 DX8_divide_45
theorem dX8_divide_46 : decode cX8_divide 46 = .ok (.ireturn, 1) := do_ac DX8_divide_46
def TX8_isNone_32 : List UInt8 := []
def TX8_isNone_31 : List UInt8 := 172 :: TX8_isNone_32
def TX8_isNone_30 : List UInt8 := 27 :: TX8_isNone_31
def TX8_isNone_27 : List UInt8 := 167 :: 255 :: 233 :: TX8_isNone_30
def TX8_isNone_24 : List UInt8 := 132 :: 2 :: 1 :: TX8_isNone_27
def TX8_isNone_23 : List UInt8 := 60 :: TX8_isNone_24
def TX8_isNone_22 : List UInt8 := 126 :: TX8_isNone_23
def TX8_isNone_21 : List UInt8 := 3 :: TX8_isNone_22
def TX8_isNone_18 : List UInt8 := 167 :: 0 :: 4 :: TX8_isNone_21
def TX8_isNone_17 : List UInt8 := 4 :: TX8_isNone_18
def TX8_isNone_14 : List UInt8 := 154 :: 0 :: 7 :: TX8_isNone_17
def TX8_isNone_13 : List UInt8 := 46 :: TX8_isNone_14
def TX8_isNone_12 : List UInt8 := 28 :: TX8_isNone_13
def TX8_isNone_11 : List UInt8 := 42 :: TX8_isNone_12
def TX8_isNone_10 : List UInt8 := 27 :: TX8_isNone_11
def TX8_isNone_7 : List UInt8 := 162 :: 0 :: 23 :: TX8_isNone_10
def TX8_isNone_6 : List UInt8 := 190 :: TX8_isNone_7
def TX8_isNone_5 : List UInt8 := 42 :: TX8_isNone_6
def TX8_isNone_4 : List UInt8 := 28 :: TX8_isNone_5
def TX8_isNone_3 : List UInt8 := 61 :: TX8_isNone_4
def TX8_isNone_2 : List UInt8 := 4 :: TX8_isNone_3
def TX8_isNone_1 : List UInt8 := 60 :: TX8_isNone_2
def TX8_isNone_0 : List UInt8 := 4 :: TX8_isNone_1
theorem DX8_isNone_0 : cX8_isNone.data.toList.drop 0 = TX8_isNone_0 := by decide +kernel
theorem DX8_isNone_1 : cX8_isNone.data.toList.drop 1 = TX8_isNone_1 := dr1 DX8_isNone_0
theorem DX8_isNone_2 : cX8_isNone.data.toList.drop 2 = TX8_isNone_2 := dr1 DX8_isNone_1
theorem DX8_isNone_3 : cX8_isNone.data.toList.drop 3 = TX8_isNone_3 := dr1 DX8_isNone_2
theorem DX8_isNone_4 : cX8_isNone.data.toList.drop 4 = TX8_isNone_4 := dr1 DX8_isNone_3
theorem DX8_isNone_5 : cX8_isNone.data.toList.drop 5 = TX8_isNone_5 := dr1 DX8_isNone_4
theorem DX8_isNone_6 : cX8_isNone.data.toList.drop 6 = TX8_isNone_6 := dr1 DX8_isNone_5
theorem DX8_isNone_7 : cX8_isNone.data.toList.drop 7 = TX8_isNone_7 := dr1 DX8_isNone_6
theorem DX8_isNone_10 : cX8_isNone.data.toList.drop 10 = TX8_isNone_10 := dr3 DX8_isNone_7
theorem DX8_isNone_11 : cX8_isNone.data.toList.drop 11 = TX8_isNone_11 := dr1 DX8_isNone_10
theorem DX8_isNone_12 : cX8_isNone.data.toList.drop 12 = TX8_isNone_12 := dr1 DX8_isNone_11
theorem DX8_isNone_13 : cX8_isNone.data.toList.drop 13 = TX8_isNone_13 := dr1 DX8_isNone_12
theorem DX8_isNone_14 : cX8_isNone.data.toList.drop 14 = TX8_isNone_14 := dr1 DX8_isNone_13
theorem DX8_isNone_17 : cX8_isNone.data.toList.drop 17 = TX8_isNone_17 := dr3 DX8_isNone_14
theorem DX8_isNone_18 : cX8_isNone.data.toList.drop 18 = TX8_isNone_18 := dr1 DX8_isNone_17
theorem DX8_isNone_21 : cX8_isNone.data.toList.drop 21 = TX8_isNone_21 := dr3 DX8_isNone_18
theorem DX8_isNone_22 : cX8_isNone.data.toList.drop 22 = TX8_isNone_22 := dr1 DX8_isNone_21
theorem DX8_isNone_23 : cX8_isNone.data.toList.drop 23 = TX8_isNone_23 := dr1 DX8_isNone_22
theorem DX8_isNone_24 : cX8_isNone.data.toList.drop 24 = TX8_isNone_24 := dr1 DX8_isNone_23
theorem DX8_isNone_27 : cX8_isNone.data.toList.drop 27 = TX8_isNone_27 := dr3 DX8_isNone_24
theorem DX8_isNone_30 : cX8_isNone.data.toList.drop 30 = TX8_isNone_30 := dr3 DX8_isNone_27
theorem DX8_isNone_31 : cX8_isNone.data.toList.drop 31 = TX8_isNone_31 := dr1 DX8_isNone_30
theorem dX8_isNone_0 : decode cX8_isNone 0 = .ok (.iconst 1, 1) := do_04 DX8_isNone_0
theorem dX8_isNone_1 : decode cX8_isNone 1 = .ok (.istore_n 1, 1) := do_3c DX8_isNone_1
theorem dX8_isNone_2 : decode cX8_isNone 2 = .ok (.iconst 1, 1) := do_04 DX8_isNone_2
theorem dX8_isNone_3 : decode cX8_isNone 3 = .ok (.istore_n 2, 1) := do_3d DX8_isNone_3
theorem dX8_isNone_4 : decode cX8_isNone 4 = .ok (.iload_n 2, 1) := do_1c DX8_isNone_4
theorem dX8_isNone_5 : decode cX8_isNone 5 = .ok (.aload_n 0, 1) := do_2a DX8_isNone_5
theorem dX8_isNone_6 : decode cX8_isNone 6 = .ok (.arraylength, 1) := do_be DX8_isNone_6
theorem dX8_isNone_7 : decode cX8_isNone 7 = .ok (.if_icmp .ge 23, 3) := do_a2 DX8_isNone_7 (by decide +kernel)
theorem dX8_isNone_10 : decode cX8_isNone 10 = .ok (.iload_n 1, 1) := do_1b DX8_isNone_10
theorem dX8_isNone_11 : decode cX8_isNone 11 = .ok (.aload_n 0, 1) := do_2a DX8_isNone_11
theorem dX8_isNone_12 : decode cX8_isNone 12 = .ok (.iload_n 2, 1) := do_1c DX8_isNone_12
theorem dX8_isNone_13 : decode cX8_isNone 13 = .ok (.iaload, 1) := do_2e DX8_isNone_13
theorem dX8_isNone_14 : decode cX8_isNone 14 = .ok (.ifCond .ne 7, 3) := do_9a DX8_isNone_14 (by decide +kernel)
theorem dX8_isNone_17 : decode cX8_isNone 17 = .ok (.iconst 1, 1) := do_04 DX8_isNone_17
theorem dX8_isNone_18 : decode cX8_isNone 18 = .ok (.goto 4, 3) := do_a7 DX8_isNone_18 (by decide +kernel)
theorem dX8_isNone_21 : decode cX8_isNone 21 = .ok (.iconst 0, 1) := do_03 DX8_isNone_21
theorem dX8_isNone_22 : decode cX8_isNone 22 = .ok (.iand, 1) := do_7e DX8_isNone_22
theorem dX8_isNone_23 : decode cX8_isNone 23 = .ok (.istore_n 1, 1) := do_3c DX8_isNone_23
theorem dX8_isNone_24 : decode cX8_isNone 24 = .ok (.iinc 2 1, 3) := do_84 DX8_isNone_24
theorem dX8_isNone_27 : decode cX8_isNone 27 = .ok (.goto (-23), 3) := do_a7 DX8_isNone_27 (by decide +kernel)
theorem dX8_isNone_30 : decode cX8_isNone 30 = .ok (.iload_n 1, 1) := do_1b DX8_isNone_30
theorem dX8_isNone_31 : decode cX8_isNone 31 = .ok (.ireturn, 1) := do_ac DX8_isNone_31
def TX8_text_71 : List UInt8 := []
def TX8_text_70 : List UInt8 := 176 :: TX8_text_71
def TX8_text_67 : List UInt8 := 182 :: 0 :: 113 :: TX8_text_70
def TX8_text_64 : List UInt8 := 182 :: 0 :: 109 :: TX8_text_67
def TX8_text_63 : List UInt8 := 45 :: TX8_text_64
def TX8_text_62 : List UInt8 := 87 :: TX8_text_63
def TX8_text_59 : List UInt8 := 182 :: 0 :: 105 :: TX8_text_62
def TX8_text_57 : List UInt8 := 16 :: 45 :: TX8_text_59
def TX8_text_56 : List UInt8 := 45 :: TX8_text_57
def TX8_text_53 : List UInt8 := 156 :: 0 :: 10 :: TX8_text_56
def TX8_text_52 : List UInt8 := 46 :: TX8_text_53
def TX8_text_51 : List UInt8 := 3 :: TX8_text_52
def TX8_text_50 : List UInt8 := 42 :: TX8_text_51
def TX8_text_47 : List UInt8 := 167 :: 255 :: 234 :: TX8_text_50
def TX8_text_46 : List UInt8 := 87 :: TX8_text_47
def TX8_text_43 : List UInt8 := 182 :: 0 :: 105 :: TX8_text_46
def TX8_text_40 : List UInt8 := 182 :: 0 :: 99 :: TX8_text_43
def TX8_text_37 : List UInt8 := 184 :: 0 :: 95 :: TX8_text_40
def TX8_text_36 : List UInt8 := 27 :: TX8_text_37
def TX8_text_35 : List UInt8 := 44 :: TX8_text_36
def TX8_text_33 : List UInt8 := 18 :: 93 :: TX8_text_35
def TX8_text_32 : List UInt8 := 45 :: TX8_text_33
def TX8_text_29 : List UInt8 := 154 :: 0 :: 21 :: TX8_text_32
def TX8_text_26 : List UInt8 := 184 :: 0 :: 89 :: TX8_text_29
def TX8_text_25 : List UInt8 := 44 :: TX8_text_26
def TX8_text_24 : List UInt8 := 78 :: TX8_text_25
def TX8_text_21 : List UInt8 := 183 :: 0 :: 88 :: TX8_text_24
def TX8_text_20 : List UInt8 := 89 :: TX8_text_21
def TX8_text_17 : List UInt8 := 187 :: 0 :: 86 :: TX8_text_20
def TX8_text_16 : List UInt8 := 77 :: TX8_text_17
def TX8_text_13 : List UInt8 := 192 :: 0 :: 19 :: TX8_text_16
def TX8_text_10 : List UInt8 := 182 :: 0 :: 59 :: TX8_text_13
def TX8_text_9 : List UInt8 := 42 :: TX8_text_10
def TX8_text_8 : List UInt8 := 176 :: TX8_text_9
def TX8_text_6 : List UInt8 := 18 :: 84 :: TX8_text_8
def TX8_text_3 : List UInt8 := 154 :: 0 :: 6 :: TX8_text_6
def TX8_text_2 : List UInt8 := 46 :: TX8_text_3
def TX8_text_1 : List UInt8 := 3 :: TX8_text_2
def TX8_text_0 : List UInt8 := 42 :: TX8_text_1
theorem DX8_text_0 : cX8_text.data.toList.drop 0 = TX8_text_0 := by decide +kernel
theorem DX8_text_1 : cX8_text.data.toList.drop 1 = TX8_text_1 := dr1 DX8_text_0
theorem DX8_text_2 : cX8_text.data.toList.drop 2 = TX8_text_2 := dr1 DX8_text_1
theorem DX8_text_3 : cX8_text.data.toList.drop 3 = TX8_text_3 := dr1 DX8_text_2
theorem DX8_text_6 : cX8_text.data.toList.drop 6 = TX8_text_6 := dr3 DX8_text_3
theorem DX8_text_8 : cX8_text.data.toList.drop 8 = TX8_text_8 := dr2 DX8_text_6
theorem DX8_text_9 : cX8_text.data.toList.drop 9 = TX8_text_9 := dr1 DX8_text_8
theorem DX8_text_10 : cX8_text.data.toList.drop 10 = TX8_text_10 := dr1 DX8_text_9
theorem DX8_text_13 : cX8_text.data.toList.drop 13 = TX8_text_13 := dr3 DX8_text_10
theorem DX8_text_16 : cX8_text.data.toList.drop 16 = TX8_text_16 := dr3 DX8_text_13
theorem DX8_text_17 : cX8_text.data.toList.drop 17 = TX8_text_17 := dr1 DX8_text_16
theorem DX8_text_20 : cX8_text.data.toList.drop 20 = TX8_text_20 := dr3 DX8_text_17
theorem DX8_text_21 : cX8_text.data.toList.drop 21 = TX8_text_21 := dr1 DX8_text_20
theorem DX8_text_24 : cX8_text.data.toList.drop 24 = TX8_text_24 := dr3 DX8_text_21
theorem DX8_text_25 : cX8_text.data.toList.drop 25 = TX8_text_25 := dr1 DX8_text_24
theorem DX8_text_26 : cX8_text.data.toList.drop 26 = TX8_text_26 := dr1 DX8_text_25
theorem DX8_text_29 : cX8_text.data.toList.drop 29 = TX8_text_29 := dr3 DX8_text_26
theorem DX8_text_32 : cX8_text.data.toList.drop 32 = TX8_text_32 := dr3 DX8_text_29
theorem DX8_text_33 : cX8_text.data.toList.drop 33 = TX8_text_33 := dr1 DX8_text_32
theorem DX8_text_35 : cX8_text.data.toList.drop 35 = TX8_text_35 := dr2 DX8_text_33
theorem DX8_text_36 : cX8_text.data.toList.drop 36 = TX8_text_36 := dr1 DX8_text_35
theorem DX8_text_37 : cX8_text.data.toList.drop 37 = TX8_text_37 := dr1 DX8_text_36
theorem DX8_text_40 : cX8_text.data.toList.drop 40 = TX8_text_40 := dr3 DX8_text_37
theorem DX8_text_43 : cX8_text.data.toList.drop 43 = TX8_text_43 := dr3 DX8_text_40
theorem DX8_text_46 : cX8_text.data.toList.drop 46 = TX8_text_46 := dr3 DX8_text_43
theorem DX8_text_47 : cX8_text.data.toList.drop 47 = TX8_text_47 := dr1 DX8_text_46
theorem DX8_text_50 : cX8_text.data.toList.drop 50 = TX8_text_50 := dr3 DX8_text_47
theorem DX8_text_51 : cX8_text.data.toList.drop 51 = TX8_text_51 := dr1 DX8_text_50
theorem DX8_text_52 : cX8_text.data.toList.drop 52 = TX8_text_52 := dr1 DX8_text_51
theorem DX8_text_53 : cX8_text.data.toList.drop 53 = TX8_text_53 := dr1 DX8_text_52
theorem DX8_text_56 : cX8_text.data.toList.drop 56 = TX8_text_56 := dr3 DX8_text_53
theorem DX8_text_57 : cX8_text.data.toList.drop 57 = TX8_text_57 := dr1 DX8_text_56
theorem DX8_text_59 : cX8_text.data.toList.drop 59 = TX8_text_59 := dr2 DX8_text_57
theorem DX8_text_62 : cX8_text.data.toList.drop 62 = TX8_text_62 := dr3 DX8_text_59
theorem DX8_text_63 : cX8_text.data.toList.drop 63 = TX8_text_63 := dr1 DX8_text_62
theorem DX8_text_64 : cX8_text.data.toList.drop 64 = TX8_text_64 := dr1 DX8_text_63
theorem DX8_text_67 : cX8_text.data.toList.drop 67 = TX8_text_67 := dr3 DX8_text_64
theorem DX8_text_70 : cX8_text.data.toList.drop 70 = TX8_text_70 := dr3 DX8_text_67
theorem dX8_text_0 : decode cX8_text 0 = .ok (.aload_n 0, 1) := do_2a DX8_text_0
theorem dX8_text_1 : decode cX8_text 1 = .ok (.iconst 0, 1) := do_03 DX8_text_1
theorem dX8_text_2 : decode cX8_text 2 = .ok (.iaload, 1) := do_2e DX8_text_2
theorem dX8_text_3 : decode cX8_text 3 = .ok (.ifCond .ne 6, 3) := do_9a DX8_text_3 (by decide +kernel)
theorem dX8_text_6 : decode cX8_text 6 = .ok (.ldc 84, 2) := by decide +kernel
theorem dX8_text_8 : decode cX8_text 8 = .ok (.areturn, 1) := do_b0 DX8_text_8
theorem dX8_text_9 : decode cX8_text 9 = .ok (.aload_n 0, 1) := do_2a DX8_text_9
theorem dX8_text_10 : decode cX8_text 10 = .ok (.invokevirtual 59, 3) := do_b6 DX8_text_10
theorem dX8_text_13 : decode cX8_text 13 = .ok (.checkcast 19, 3) := do_c0 DX8_text_13
theorem dX8_text_16 : decode cX8_text 16 = .ok (.astore_n 2, 1) := do_4d DX8_text_16
theorem dX8_text_17 : decode cX8_text 17 = .ok (.new 86, 3) := do_bb DX8_text_17
theorem dX8_text_20 : decode cX8_text 20 = .ok (.dup, 1) := do_59 DX8_text_20
theorem dX8_text_21 : decode cX8_text 21 = .ok (.invokespecial 88, 3) := do_b7 DX8_text_21
theorem dX8_text_24 : decode cX8_text 24 = .ok (.astore_n 3, 1) := do_4e DX8_text_24
theorem dX8_text_25 : decode cX8_text 25 = .ok (.aload_n 2, 1) := do_2c DX8_text_25
theorem dX8_text_26 : decode cX8_text 26 = .ok (.invokestatic 89, 3) := do_b8 DX8_text_26
theorem dX8_text_29 : decode cX8_text 29 = .ok (.ifCond .ne 21, 3) := do_9a DX8_text_29 (by decide +kernel)
theorem dX8_text_32 : decode cX8_text 32 = .ok (.aload_n 3, 1) := do_2d DX8_text_32
theorem dX8_text_33 : decode cX8_text 33 = .ok (.ldc 93, 2) := by decide +kernel
theorem dX8_text_35 : decode cX8_text 35 = .ok (.aload_n 2, 1) := do_2c DX8_text_35
theorem dX8_text_36 : decode cX8_text 36 = .ok (.iload_n 1, 1) := do_1b DX8_text_36
theorem dX8_text_37 : decode cX8_text 37 = .ok (.invokestatic 95, 3) := do_b8 DX8_text_37
theorem dX8_text_40 : decode cX8_text 40 = .ok (.invokevirtual 99, 3) := do_b6 DX8_text_40
theorem dX8_text_43 : decode cX8_text 43 = .ok (.invokevirtual 105, 3) := do_b6 DX8_text_43
theorem dX8_text_46 : decode cX8_text 46 = .ok (.pop, 1) := do_57 DX8_text_46
theorem dX8_text_47 : decode cX8_text 47 = .ok (.goto (-22), 3) := do_a7 DX8_text_47 (by decide +kernel)
theorem dX8_text_50 : decode cX8_text 50 = .ok (.aload_n 0, 1) := do_2a DX8_text_50
theorem dX8_text_51 : decode cX8_text 51 = .ok (.iconst 0, 1) := do_03 DX8_text_51
theorem dX8_text_52 : decode cX8_text 52 = .ok (.iaload, 1) := do_2e DX8_text_52
theorem dX8_text_53 : decode cX8_text 53 = .ok (.ifCond .ge 10, 3) := do_9c DX8_text_53 (by decide +kernel)
theorem dX8_text_56 : decode cX8_text 56 = .ok (.aload_n 3, 1) := do_2d DX8_text_56
theorem dX8_text_57 : decode cX8_text 57 = .ok (.bipush 45, 2) := do_10 DX8_text_57 (by decide +kernel)
theorem dX8_text_59 : decode cX8_text 59 = .ok (.invokevirtual 105, 3) := do_b6 DX8_text_59
theorem dX8_text_62 : decode cX8_text 62 = .ok (.pop, 1) := do_57 DX8_text_62
theorem dX8_text_63 : decode cX8_text 63 = .ok (.aload_n 3, 1) := do_2d DX8_text_63
theorem dX8_text_64 : decode cX8_text 64 = .ok (.invokevirtual 109, 3) := do_b6 DX8_text_64
theorem dX8_text_67 : decode cX8_text 67 = .ok (.invokevirtual 113, 3) := do_b6 DX8_text_67
theorem dX8_text_70 : decode cX8_text 70 = .ok (.areturn, 1) := do_b0 DX8_text_70
def TX8_last_42 : List UInt8 := []
def TX8_last_41 : List UInt8 := 173 :: TX8_last_42
def TX8_last_40 : List UInt8 := 105 :: TX8_last_41
def TX8_last_39 : List UInt8 := 31 :: TX8_last_40
def TX8_last_38 : List UInt8 := 133 :: TX8_last_39
def TX8_last_37 : List UInt8 := 46 :: TX8_last_38
def TX8_last_36 : List UInt8 := 3 :: TX8_last_37
def TX8_last_35 : List UInt8 := 42 :: TX8_last_36
def TX8_last_32 : List UInt8 := 167 :: 255 :: 228 :: TX8_last_35
def TX8_last_29 : List UInt8 := 132 :: 3 :: 1 :: TX8_last_32
def TX8_last_28 : List UInt8 := 64 :: TX8_last_29
def TX8_last_27 : List UInt8 := 97 :: TX8_last_28
def TX8_last_26 : List UInt8 := 121 :: TX8_last_27
def TX8_last_25 : List UInt8 := 104 :: TX8_last_26
def TX8_last_24 : List UInt8 := 100 :: TX8_last_25
def TX8_last_23 : List UInt8 := 4 :: TX8_last_24
def TX8_last_22 : List UInt8 := 29 :: TX8_last_23
def TX8_last_20 : List UInt8 := 16 :: 30 :: TX8_last_22
def TX8_last_19 : List UInt8 := 133 :: TX8_last_20
def TX8_last_18 : List UInt8 := 46 :: TX8_last_19
def TX8_last_17 : List UInt8 := 29 :: TX8_last_18
def TX8_last_16 : List UInt8 := 42 :: TX8_last_17
def TX8_last_15 : List UInt8 := 31 :: TX8_last_16
def TX8_last_12 : List UInt8 := 162 :: 0 :: 23 :: TX8_last_15
def TX8_last_11 : List UInt8 := 7 :: TX8_last_12
def TX8_last_10 : List UInt8 := 29 :: TX8_last_11
def TX8_last_7 : List UInt8 := 162 :: 0 :: 28 :: TX8_last_10
def TX8_last_6 : List UInt8 := 190 :: TX8_last_7
def TX8_last_5 : List UInt8 := 42 :: TX8_last_6
def TX8_last_4 : List UInt8 := 29 :: TX8_last_5
def TX8_last_3 : List UInt8 := 62 :: TX8_last_4
def TX8_last_2 : List UInt8 := 4 :: TX8_last_3
def TX8_last_1 : List UInt8 := 64 :: TX8_last_2
def TX8_last_0 : List UInt8 := 9 :: TX8_last_1
theorem DX8_last_0 : cX8_last.data.toList.drop 0 = TX8_last_0 := by decide +kernel
theorem DX8_last_1 : cX8_last.data.toList.drop 1 = TX8_last_1 := dr1 DX8_last_0
theorem DX8_last_2 : cX8_last.data.toList.drop 2 = TX8_last_2 := dr1 DX8_last_1
theorem DX8_last_3 : cX8_last.data.toList.drop 3 = TX8_last_3 := dr1 DX8_last_2
theorem DX8_last_4 : cX8_last.data.toList.drop 4 = TX8_last_4 := dr1 DX8_last_3
theorem DX8_last_5 : cX8_last.data.toList.drop 5 = TX8_last_5 := dr1 DX8_last_4
theorem DX8_last_6 : cX8_last.data.toList.drop 6 = TX8_last_6 := dr1 DX8_last_5
theorem DX8_last_7 : cX8_last.data.toList.drop 7 = TX8_last_7 := dr1 DX8_last_6
theorem DX8_last_10 : cX8_last.data.toList.drop 10 = TX8_last_10 := dr3 DX8_last_7
theorem DX8_last_11 : cX8_last.data.toList.drop 11 = TX8_last_11 := dr1 DX8_last_10
theorem DX8_last_12 : cX8_last.data.toList.drop 12 = TX8_last_12 := dr1 DX8_last_11
theorem DX8_last_15 : cX8_last.data.toList.drop 15 = TX8_last_15 := dr3 DX8_last_12
theorem DX8_last_16 : cX8_last.data.toList.drop 16 = TX8_last_16 := dr1 DX8_last_15
theorem DX8_last_17 : cX8_last.data.toList.drop 17 = TX8_last_17 := dr1 DX8_last_16
theorem DX8_last_18 : cX8_last.data.toList.drop 18 = TX8_last_18 := dr1 DX8_last_17
theorem DX8_last_19 : cX8_last.data.toList.drop 19 = TX8_last_19 := dr1 DX8_last_18
theorem DX8_last_20 : cX8_last.data.toList.drop 20 = TX8_last_20 := dr1 DX8_last_19
theorem DX8_last_22 : cX8_last.data.toList.drop 22 = TX8_last_22 := dr2 DX8_last_20
theorem DX8_last_23 : cX8_last.data.toList.drop 23 = TX8_last_23 := dr1 DX8_last_22
theorem DX8_last_24 : cX8_last.data.toList.drop 24 = TX8_last_24 := dr1 DX8_last_23
theorem DX8_last_25 : cX8_last.data.toList.drop 25 = TX8_last_25 := dr1 DX8_last_24
theorem DX8_last_26 : cX8_last.data.toList.drop 26 = TX8_last_26 := dr1 DX8_last_25
theorem DX8_last_27 : cX8_last.data.toList.drop 27 = TX8_last_27 := dr1 DX8_last_26
theorem DX8_last_28 : cX8_last.data.toList.drop 28 = TX8_last_28 := dr1 DX8_last_27
theorem DX8_last_29 : cX8_last.data.toList.drop 29 = TX8_last_29 := dr1 DX8_last_28
theorem DX8_last_32 : cX8_last.data.toList.drop 32 = TX8_last_32 := dr3 DX8_last_29
theorem DX8_last_35 : cX8_last.data.toList.drop 35 = TX8_last_35 := dr3 DX8_last_32
theorem DX8_last_36 : cX8_last.data.toList.drop 36 = TX8_last_36 := dr1 DX8_last_35
theorem DX8_last_37 : cX8_last.data.toList.drop 37 = TX8_last_37 := dr1 DX8_last_36
theorem DX8_last_38 : cX8_last.data.toList.drop 38 = TX8_last_38 := dr1 DX8_last_37
theorem DX8_last_39 : cX8_last.data.toList.drop 39 = TX8_last_39 := dr1 DX8_last_38
theorem DX8_last_40 : cX8_last.data.toList.drop 40 = TX8_last_40 := dr1 DX8_last_39
theorem DX8_last_41 : cX8_last.data.toList.drop 41 = TX8_last_41 := dr1 DX8_last_40
theorem dX8_last_0 : decode cX8_last 0 = .ok (.lconst 0, 1) := do_09 DX8_last_0
theorem dX8_last_1 : decode cX8_last 1 = .ok (.lstore_n 1, 1) := do_40 DX8_last_1
theorem dX8_last_2 : decode cX8_last 2 = .ok (.iconst 1, 1) := do_04 DX8_last_2
theorem dX8_last_3 : decode cX8_last 3 = .ok (.istore_n 3, 1) := do_3e DX8_last_3
theorem dX8_last_4 : decode cX8_last 4 = .ok (.iload_n 3, 1) := do_1d DX8_last_4
theorem dX8_last_5 : decode cX8_last 5 = .ok (.aload_n 0, 1) := do_2a DX8_last_5
theorem dX8_last_6 : decode cX8_last 6 = .ok (.arraylength, 1) := do_be DX8_last_6
theorem dX8_last_7 : decode cX8_last 7 = .ok (.if_icmp .ge 28, 3) := do_a2 DX8_last_7 (by decide +kernel)
theorem dX8_last_10 : decode cX8_last 10 = .ok (.iload_n 3, 1) := do_1d DX8_last_10
theorem dX8_last_11 : decode cX8_last 11 = .ok (.iconst 4, 1) := do_07 DX8_last_11
theorem dX8_last_12 : decode cX8_last 12 = .ok (.if_icmp .ge 23, 3) := do_a2 DX8_last_12 (by decide +kernel)
theorem dX8_last_15 : decode cX8_last 15 = .ok (.lload_n 1, 1) := do_1f DX8_last_15
theorem dX8_last_16 : decode cX8_last 16 = .ok (.aload_n 0, 1) := do_2a DX8_last_16
theorem dX8_last_17 : decode cX8_last 17 = .ok (.iload_n 3, 1) := do_1d DX8_last_17
theorem dX8_last_18 : decode cX8_last 18 = .ok (.iaload, 1) := do_2e DX8_last_18
theorem dX8_last_19 : decode cX8_last 19 = .ok (.i2l, 1) := do_85 DX8_last_19
theorem dX8_last_20 : decode cX8_last 20 = .ok (.bipush 30, 2) := do_10 DX8_last_20 (by decide +kernel)
theorem dX8_last_22 : decode cX8_last 22 = .ok (.iload_n 3, 1) := do_1d DX8_last_22
theorem dX8_last_23 : decode cX8_last 23 = .ok (.iconst 1, 1) := do_04 DX8_last_23
theorem dX8_last_24 : decode cX8_last 24 = .ok (.isub, 1) := do_64 DX8_last_24
theorem dX8_last_25 : decode cX8_last 25 = .ok (.imul, 1) := do_68 DX8_last_25
theorem dX8_last_26 : decode cX8_last 26 = .ok (.lshl, 1) := do_79 DX8_last_26
theorem dX8_last_27 : decode cX8_last 27 = .ok (.ladd, 1) := do_61 DX8_last_27
theorem dX8_last_28 : decode cX8_last 28 = .ok (.lstore_n 1, 1) := do_40 DX8_last_28
theorem dX8_last_29 : decode cX8_last 29 = .ok (.iinc 3 1, 3) := do_84 DX8_last_29
theorem dX8_last_32 : decode cX8_last 32 = .ok (.goto (-28), 3) := do_a7 DX8_last_32 (by decide +kernel)
theorem dX8_last_35 : decode cX8_last 35 = .ok (.aload_n 0, 1) := do_2a DX8_last_35
theorem dX8_last_36 : decode cX8_last 36 = .ok (.iconst 0, 1) := do_03 DX8_last_36
theorem dX8_last_37 : decode cX8_last 37 = .ok (.iaload, 1) := do_2e DX8_last_37
theorem dX8_last_38 : decode cX8_last 38 = .ok (.i2l, 1) := do_85 DX8_last_38
theorem dX8_last_39 : decode cX8_last 39 = .ok (.lload_n 1, 1) := do_1f DX8_last_39
theorem dX8_last_40 : decode cX8_last 40 = .ok (.lmul, 1) := do_69 DX8_last_40
theorem dX8_last_41 : decode cX8_last 41 = .ok (.lreturn, 1) := do_ad DX8_last_41
def TX8_isDigit_33 : List UInt8 := []
def TX8_isDigit_32 : List UInt8 := 172 :: TX8_isDigit_33
def TX8_isDigit_31 : List UInt8 := 3 :: TX8_isDigit_32
def TX8_isDigit_28 : List UInt8 := 167 :: 0 :: 4 :: TX8_isDigit_31
def TX8_isDigit_27 : List UInt8 := 4 :: TX8_isDigit_28
def TX8_isDigit_24 : List UInt8 := 160 :: 0 :: 7 :: TX8_isDigit_27
def TX8_isDigit_23 : List UInt8 := 4 :: TX8_isDigit_24
def TX8_isDigit_22 : List UInt8 := 126 :: TX8_isDigit_23
def TX8_isDigit_21 : List UInt8 := 4 :: TX8_isDigit_22
def TX8_isDigit_20 : List UInt8 := 122 :: TX8_isDigit_21
def TX8_isDigit_19 : List UInt8 := 112 :: TX8_isDigit_20
def TX8_isDigit_17 : List UInt8 := 16 :: 30 :: TX8_isDigit_19
def TX8_isDigit_16 : List UInt8 := 27 :: TX8_isDigit_17
def TX8_isDigit_15 : List UInt8 := 46 :: TX8_isDigit_16
def TX8_isDigit_14 : List UInt8 := 28 :: TX8_isDigit_15
def TX8_isDigit_13 : List UInt8 := 42 :: TX8_isDigit_14
def TX8_isDigit_10 : List UInt8 := 162 :: 0 :: 21 :: TX8_isDigit_13
def TX8_isDigit_9 : List UInt8 := 190 :: TX8_isDigit_10
def TX8_isDigit_8 : List UInt8 := 42 :: TX8_isDigit_9
def TX8_isDigit_7 : List UInt8 := 28 :: TX8_isDigit_8
def TX8_isDigit_6 : List UInt8 := 61 :: TX8_isDigit_7
def TX8_isDigit_5 : List UInt8 := 96 :: TX8_isDigit_6
def TX8_isDigit_4 : List UInt8 := 4 :: TX8_isDigit_5
def TX8_isDigit_3 : List UInt8 := 108 :: TX8_isDigit_4
def TX8_isDigit_1 : List UInt8 := 16 :: 30 :: TX8_isDigit_3
def TX8_isDigit_0 : List UInt8 := 27 :: TX8_isDigit_1
theorem DX8_isDigit_0 : cX8_isDigit.data.toList.drop 0 = TX8_isDigit_0 := by decide +kernel
theorem DX8_isDigit_1 : cX8_isDigit.data.toList.drop 1 = TX8_isDigit_1 := dr1 DX8_isDigit_0
theorem DX8_isDigit_3 : cX8_isDigit.data.toList.drop 3 = TX8_isDigit_3 := dr2 DX8_isDigit_1
theorem DX8_isDigit_4 : cX8_isDigit.data.toList.drop 4 = TX8_isDigit_4 := dr1 DX8_isDigit_3
theorem DX8_isDigit_5 : cX8_isDigit.data.toList.drop 5 = TX8_isDigit_5 := dr1 DX8_isDigit_4
theorem DX8_isDigit_6 : cX8_isDigit.data.toList.drop 6 = TX8_isDigit_6 := dr1 DX8_isDigit_5
theorem DX8_isDigit_7 : cX8_isDigit.data.toList.drop 7 = TX8_isDigit_7 := dr1 DX8_isDigit_6
theorem DX8_isDigit_8 : cX8_isDigit.data.toList.drop 8 = TX8_isDigit_8 := dr1 DX8_isDigit_7
theorem DX8_isDigit_9 : cX8_isDigit.data.toList.drop 9 = TX8_isDigit_9 := dr1 DX8_isDigit_8
theorem DX8_isDigit_10 : cX8_isDigit.data.toList.drop 10 = TX8_isDigit_10 := dr1 DX8_isDigit_9
theorem DX8_isDigit_13 : cX8_isDigit.data.toList.drop 13 = TX8_isDigit_13 := dr3 DX8_isDigit_10
theorem DX8_isDigit_14 : cX8_isDigit.data.toList.drop 14 = TX8_isDigit_14 := dr1 DX8_isDigit_13
theorem DX8_isDigit_15 : cX8_isDigit.data.toList.drop 15 = TX8_isDigit_15 := dr1 DX8_isDigit_14
theorem DX8_isDigit_16 : cX8_isDigit.data.toList.drop 16 = TX8_isDigit_16 := dr1 DX8_isDigit_15
theorem DX8_isDigit_17 : cX8_isDigit.data.toList.drop 17 = TX8_isDigit_17 := dr1 DX8_isDigit_16
theorem DX8_isDigit_19 : cX8_isDigit.data.toList.drop 19 = TX8_isDigit_19 := dr2 DX8_isDigit_17
theorem DX8_isDigit_20 : cX8_isDigit.data.toList.drop 20 = TX8_isDigit_20 := dr1 DX8_isDigit_19
theorem DX8_isDigit_21 : cX8_isDigit.data.toList.drop 21 = TX8_isDigit_21 := dr1 DX8_isDigit_20
theorem DX8_isDigit_22 : cX8_isDigit.data.toList.drop 22 = TX8_isDigit_22 := dr1 DX8_isDigit_21
theorem DX8_isDigit_23 : cX8_isDigit.data.toList.drop 23 = TX8_isDigit_23 := dr1 DX8_isDigit_22
theorem DX8_isDigit_24 : cX8_isDigit.data.toList.drop 24 = TX8_isDigit_24 := dr1 DX8_isDigit_23
theorem DX8_isDigit_27 : cX8_isDigit.data.toList.drop 27 = TX8_isDigit_27 := dr3 DX8_isDigit_24
theorem DX8_isDigit_28 : cX8_isDigit.data.toList.drop 28 = TX8_isDigit_28 := dr1 DX8_isDigit_27
theorem DX8_isDigit_31 : cX8_isDigit.data.toList.drop 31 = TX8_isDigit_31 := dr3 DX8_isDigit_28
theorem DX8_isDigit_32 : cX8_isDigit.data.toList.drop 32 = TX8_isDigit_32 := dr1 DX8_isDigit_31
theorem dX8_isDigit_0 : decode cX8_isDigit 0 = .ok (.iload_n 1, 1) := do_1b DX8_isDigit_0
theorem dX8_isDigit_1 : decode cX8_isDigit 1 = .ok (.bipush 30, 2) := do_10 DX8_isDigit_1 (by decide +kernel)
theorem dX8_isDigit_3 : decode cX8_isDigit 3 = .ok (.idiv, 1) := do_6c DX8_isDigit_3
theorem dX8_isDigit_4 : decode cX8_isDigit 4 = .ok (.iconst 1, 1) := do_04 DX8_isDigit_4
theorem dX8_isDigit_5 : decode cX8_isDigit 5 = .ok (.iadd, 1) := do_60 DX8_isDigit_5
theorem dX8_isDigit_6 : decode cX8_isDigit 6 = .ok (.istore_n 2, 1) := do_3d DX8_isDigit_6
theorem dX8_isDigit_7 : decode cX8_isDigit 7 = .ok (.iload_n 2, 1) := do_1c DX8_isDigit_7
theorem dX8_isDigit_8 : decode cX8_isDigit 8 = .ok (.aload_n 0, 1) := do_2a DX8_isDigit_8
theorem dX8_isDigit_9 : decode cX8_isDigit 9 = .ok (.arraylength, 1) := do_be DX8_isDigit_9
theorem dX8_isDigit_10 : decode cX8_isDigit 10 = .ok (.if_icmp .ge 21, 3) := do_a2 DX8_isDigit_10 (by decide +kernel)
theorem dX8_isDigit_13 : decode cX8_isDigit 13 = .ok (.aload_n 0, 1) := do_2a DX8_isDigit_13
theorem dX8_isDigit_14 : decode cX8_isDigit 14 = .ok (.iload_n 2, 1) := do_1c DX8_isDigit_14
theorem dX8_isDigit_15 : decode cX8_isDigit 15 = .ok (.iaload, 1) := do_2e DX8_isDigit_15
theorem dX8_isDigit_16 : decode cX8_isDigit 16 = .ok (.iload_n 1, 1) := do_1b DX8_isDigit_16
theorem dX8_isDigit_17 : decode cX8_isDigit 17 = .ok (.bipush 30, 2) := do_10 DX8_isDigit_17 (by decide +kernel)
theorem dX8_isDigit_19 : decode cX8_isDigit 19 = .ok (.irem, 1) := do_70 DX8_isDigit_19
theorem dX8_isDigit_20 : decode cX8_isDigit 20 = .ok (.ishr, 1) := do_7a DX8_isDigit_20
theorem dX8_isDigit_21 : decode cX8_isDigit 21 = .ok (.iconst 1, 1) := do_04 DX8_isDigit_21
theorem dX8_isDigit_22 : decode cX8_isDigit 22 = .ok (.iand, 1) := do_7e DX8_isDigit_22
theorem dX8_isDigit_23 : decode cX8_isDigit 23 = .ok (.iconst 1, 1) := do_04 DX8_isDigit_23
theorem dX8_isDigit_24 : decode cX8_isDigit 24 = .ok (.if_icmp .ne 7, 3) := do_a0 DX8_isDigit_24 (by decide +kernel)
theorem dX8_isDigit_27 : decode cX8_isDigit 27 = .ok (.iconst 1, 1) := do_04 DX8_isDigit_27
theorem dX8_isDigit_28 : decode cX8_isDigit 28 = .ok (.goto 4, 3) := do_a7 DX8_isDigit_28 (by decide +kernel)
theorem dX8_isDigit_31 : decode cX8_isDigit 31 = .ok (.iconst 0, 1) := do_03 DX8_isDigit_31
theorem dX8_isDigit_32 : decode cX8_isDigit 32 = .ok (.ireturn, 1) := do_ac DX8_isDigit_32
def TX8_bits_75 : List UInt8 := []
def TX8_bits_74 : List UInt8 := 172 :: TX8_bits_75
def TX8_bits_73 : List UInt8 := 29 :: TX8_bits_74
def TX8_bits_70 : List UInt8 := 167 :: 0 :: 4 :: TX8_bits_73
def TX8_bits_68 : List UInt8 := 21 :: 4 :: TX8_bits_70
def TX8_bits_65 : List UInt8 := 160 :: 0 :: 8 :: TX8_bits_68
def TX8_bits_64 : List UInt8 := 4 :: TX8_bits_65
def TX8_bits_63 : List UInt8 := 27 :: TX8_bits_64
def TX8_bits_60 : List UInt8 := 167 :: 0 :: 14 :: TX8_bits_63
def TX8_bits_59 : List UInt8 := 96 :: TX8_bits_60
def TX8_bits_58 : List UInt8 := 4 :: TX8_bits_59
def TX8_bits_57 : List UInt8 := 28 :: TX8_bits_58
def TX8_bits_54 : List UInt8 := 154 :: 0 :: 9 :: TX8_bits_57
def TX8_bits_53 : List UInt8 := 27 :: TX8_bits_54
def TX8_bits_50 : List UInt8 := 167 :: 255 :: 216 :: TX8_bits_53
def TX8_bits_47 : List UInt8 := 132 :: 5 :: 1 :: TX8_bits_50
def TX8_bits_44 : List UInt8 := 132 :: 4 :: 1 :: TX8_bits_47
def TX8_bits_43 : List UInt8 := 61 :: TX8_bits_44
def TX8_bits_41 : List UInt8 := 21 :: 5 :: TX8_bits_43
def TX8_bits_40 : List UInt8 := 62 :: TX8_bits_41
def TX8_bits_38 : List UInt8 := 21 :: 5 :: TX8_bits_40
def TX8_bits_35 : List UInt8 := 156 :: 0 :: 6 :: TX8_bits_38
def TX8_bits_34 : List UInt8 := 29 :: TX8_bits_35
def TX8_bits_31 : List UInt8 := 167 :: 0 :: 16 :: TX8_bits_34
def TX8_bits_28 : List UInt8 := 154 :: 0 :: 6 :: TX8_bits_31
def TX8_bits_25 : List UInt8 := 184 :: 0 :: 117 :: TX8_bits_28
def TX8_bits_23 : List UInt8 := 21 :: 5 :: TX8_bits_25
def TX8_bits_22 : List UInt8 := 42 :: TX8_bits_23
def TX8_bits_19 : List UInt8 := 162 :: 0 :: 34 :: TX8_bits_22
def TX8_bits_18 : List UInt8 := 104 :: TX8_bits_19
def TX8_bits_17 : List UInt8 := 100 :: TX8_bits_18
def TX8_bits_16 : List UInt8 := 4 :: TX8_bits_17
def TX8_bits_15 : List UInt8 := 190 :: TX8_bits_16
def TX8_bits_14 : List UInt8 := 42 :: TX8_bits_15
def TX8_bits_12 : List UInt8 := 16 :: 30 :: TX8_bits_14
def TX8_bits_10 : List UInt8 := 21 :: 5 :: TX8_bits_12
def TX8_bits_8 : List UInt8 := 54 :: 5 :: TX8_bits_10
def TX8_bits_7 : List UInt8 := 3 :: TX8_bits_8
def TX8_bits_5 : List UInt8 := 54 :: 4 :: TX8_bits_7
def TX8_bits_4 : List UInt8 := 3 :: TX8_bits_5
def TX8_bits_3 : List UInt8 := 62 :: TX8_bits_4
def TX8_bits_2 : List UInt8 := 2 :: TX8_bits_3
def TX8_bits_1 : List UInt8 := 61 :: TX8_bits_2
def TX8_bits_0 : List UInt8 := 2 :: TX8_bits_1
theorem DX8_bits_0 : cX8_bits.data.toList.drop 0 = TX8_bits_0 := by decide +kernel
theorem DX8_bits_1 : cX8_bits.data.toList.drop 1 = TX8_bits_1 := dr1 DX8_bits_0
theorem DX8_bits_2 : cX8_bits.data.toList.drop 2 = TX8_bits_2 := dr1 DX8_bits_1
theorem DX8_bits_3 : cX8_bits.data.toList.drop 3 = TX8_bits_3 := dr1 DX8_bits_2
theorem DX8_bits_4 : cX8_bits.data.toList.drop 4 = TX8_bits_4 := dr1 DX8_bits_3
theorem DX8_bits_5 : cX8_bits.data.toList.drop 5 = TX8_bits_5 := dr1 DX8_bits_4
theorem DX8_bits_7 : cX8_bits.data.toList.drop 7 = TX8_bits_7 := dr2 DX8_bits_5
theorem DX8_bits_8 : cX8_bits.data.toList.drop 8 = TX8_bits_8 := dr1 DX8_bits_7
theorem DX8_bits_10 : cX8_bits.data.toList.drop 10 = TX8_bits_10 := dr2 DX8_bits_8
theorem DX8_bits_12 : cX8_bits.data.toList.drop 12 = TX8_bits_12 := dr2 DX8_bits_10
theorem DX8_bits_14 : cX8_bits.data.toList.drop 14 = TX8_bits_14 := dr2 DX8_bits_12
theorem DX8_bits_15 : cX8_bits.data.toList.drop 15 = TX8_bits_15 := dr1 DX8_bits_14
theorem DX8_bits_16 : cX8_bits.data.toList.drop 16 = TX8_bits_16 := dr1 DX8_bits_15
theorem DX8_bits_17 : cX8_bits.data.toList.drop 17 = TX8_bits_17 := dr1 DX8_bits_16
theorem DX8_bits_18 : cX8_bits.data.toList.drop 18 = TX8_bits_18 := dr1 DX8_bits_17
theorem DX8_bits_19 : cX8_bits.data.toList.drop 19 = TX8_bits_19 := dr1 DX8_bits_18
theorem DX8_bits_22 : cX8_bits.data.toList.drop 22 = TX8_bits_22 := dr3 DX8_bits_19
theorem DX8_bits_23 : cX8_bits.data.toList.drop 23 = TX8_bits_23 := dr1 DX8_bits_22
theorem DX8_bits_25 : cX8_bits.data.toList.drop 25 = TX8_bits_25 := dr2 DX8_bits_23
theorem DX8_bits_28 : cX8_bits.data.toList.drop 28 = TX8_bits_28 := dr3 DX8_bits_25
theorem DX8_bits_31 : cX8_bits.data.toList.drop 31 = TX8_bits_31 := dr3 DX8_bits_28
theorem DX8_bits_34 : cX8_bits.data.toList.drop 34 = TX8_bits_34 := dr3 DX8_bits_31
theorem DX8_bits_35 : cX8_bits.data.toList.drop 35 = TX8_bits_35 := dr1 DX8_bits_34
theorem DX8_bits_38 : cX8_bits.data.toList.drop 38 = TX8_bits_38 := dr3 DX8_bits_35
theorem DX8_bits_40 : cX8_bits.data.toList.drop 40 = TX8_bits_40 := dr2 DX8_bits_38
theorem DX8_bits_41 : cX8_bits.data.toList.drop 41 = TX8_bits_41 := dr1 DX8_bits_40
theorem DX8_bits_43 : cX8_bits.data.toList.drop 43 = TX8_bits_43 := dr2 DX8_bits_41
theorem DX8_bits_44 : cX8_bits.data.toList.drop 44 = TX8_bits_44 := dr1 DX8_bits_43
theorem DX8_bits_47 : cX8_bits.data.toList.drop 47 = TX8_bits_47 := dr3 DX8_bits_44
theorem DX8_bits_50 : cX8_bits.data.toList.drop 50 = TX8_bits_50 := dr3 DX8_bits_47
theorem DX8_bits_53 : cX8_bits.data.toList.drop 53 = TX8_bits_53 := dr3 DX8_bits_50
theorem DX8_bits_54 : cX8_bits.data.toList.drop 54 = TX8_bits_54 := dr1 DX8_bits_53
theorem DX8_bits_57 : cX8_bits.data.toList.drop 57 = TX8_bits_57 := dr3 DX8_bits_54
theorem DX8_bits_58 : cX8_bits.data.toList.drop 58 = TX8_bits_58 := dr1 DX8_bits_57
theorem DX8_bits_59 : cX8_bits.data.toList.drop 59 = TX8_bits_59 := dr1 DX8_bits_58
theorem DX8_bits_60 : cX8_bits.data.toList.drop 60 = TX8_bits_60 := dr1 DX8_bits_59
theorem DX8_bits_63 : cX8_bits.data.toList.drop 63 = TX8_bits_63 := dr3 DX8_bits_60
theorem DX8_bits_64 : cX8_bits.data.toList.drop 64 = TX8_bits_64 := dr1 DX8_bits_63
theorem DX8_bits_65 : cX8_bits.data.toList.drop 65 = TX8_bits_65 := dr1 DX8_bits_64
theorem DX8_bits_68 : cX8_bits.data.toList.drop 68 = TX8_bits_68 := dr3 DX8_bits_65
theorem DX8_bits_70 : cX8_bits.data.toList.drop 70 = TX8_bits_70 := dr2 DX8_bits_68
theorem DX8_bits_73 : cX8_bits.data.toList.drop 73 = TX8_bits_73 := dr3 DX8_bits_70
theorem DX8_bits_74 : cX8_bits.data.toList.drop 74 = TX8_bits_74 := dr1 DX8_bits_73
theorem dX8_bits_0 : decode cX8_bits 0 = .ok (.iconst (-1), 1) := do_02 DX8_bits_0
theorem dX8_bits_1 : decode cX8_bits 1 = .ok (.istore_n 2, 1) := do_3d DX8_bits_1
theorem dX8_bits_2 : decode cX8_bits 2 = .ok (.iconst (-1), 1) := do_02 DX8_bits_2
theorem dX8_bits_3 : decode cX8_bits 3 = .ok (.istore_n 3, 1) := do_3e DX8_bits_3
theorem dX8_bits_4 : decode cX8_bits 4 = .ok (.iconst 0, 1) := do_03 DX8_bits_4
theorem dX8_bits_5 : decode cX8_bits 5 = .ok (.istore 4, 2) := do_36 DX8_bits_5
theorem dX8_bits_7 : decode cX8_bits 7 = .ok (.iconst 0, 1) := do_03 DX8_bits_7
theorem dX8_bits_8 : decode cX8_bits 8 = .ok (.istore 5, 2) := do_36 DX8_bits_8
theorem dX8_bits_10 : decode cX8_bits 10 = .ok (.iload 5, 2) := do_15 DX8_bits_10
theorem dX8_bits_12 : decode cX8_bits 12 = .ok (.bipush 30, 2) := do_10 DX8_bits_12 (by decide +kernel)
theorem dX8_bits_14 : decode cX8_bits 14 = .ok (.aload_n 0, 1) := do_2a DX8_bits_14
theorem dX8_bits_15 : decode cX8_bits 15 = .ok (.arraylength, 1) := do_be DX8_bits_15
theorem dX8_bits_16 : decode cX8_bits 16 = .ok (.iconst 1, 1) := do_04 DX8_bits_16
theorem dX8_bits_17 : decode cX8_bits 17 = .ok (.isub, 1) := do_64 DX8_bits_17
theorem dX8_bits_18 : decode cX8_bits 18 = .ok (.imul, 1) := do_68 DX8_bits_18
theorem dX8_bits_19 : decode cX8_bits 19 = .ok (.if_icmp .ge 34, 3) := do_a2 DX8_bits_19 (by decide +kernel)
theorem dX8_bits_22 : decode cX8_bits 22 = .ok (.aload_n 0, 1) := do_2a DX8_bits_22
theorem dX8_bits_23 : decode cX8_bits 23 = .ok (.iload 5, 2) := do_15 DX8_bits_23
theorem dX8_bits_25 : decode cX8_bits 25 = .ok (.invokestatic 117, 3) := do_b8 DX8_bits_25
theorem dX8_bits_28 : decode cX8_bits 28 = .ok (.ifCond .ne 6, 3) := do_9a DX8_bits_28 (by decide +kernel)
theorem dX8_bits_31 : decode cX8_bits 31 = .ok (.goto 16, 3) := do_a7 DX8_bits_31 (by decide +kernel)
theorem dX8_bits_34 : decode cX8_bits 34 = .ok (.iload_n 3, 1) := do_1d DX8_bits_34
theorem dX8_bits_35 : decode cX8_bits 35 = .ok (.ifCond .ge 6, 3) := do_9c DX8_bits_35 (by decide +kernel)
theorem dX8_bits_38 : decode cX8_bits 38 = .ok (.iload 5, 2) := do_15 DX8_bits_38
theorem dX8_bits_40 : decode cX8_bits 40 = .ok (.istore_n 3, 1) := do_3e DX8_bits_40
theorem dX8_bits_41 : decode cX8_bits 41 = .ok (.iload 5, 2) := do_15 DX8_bits_41
theorem dX8_bits_43 : decode cX8_bits 43 = .ok (.istore_n 2, 1) := do_3d DX8_bits_43
theorem dX8_bits_44 : decode cX8_bits 44 = .ok (.iinc 4 1, 3) := do_84 DX8_bits_44
theorem dX8_bits_47 : decode cX8_bits 47 = .ok (.iinc 5 1, 3) := do_84 DX8_bits_47
theorem dX8_bits_50 : decode cX8_bits 50 = .ok (.goto (-40), 3) := do_a7 DX8_bits_50 (by decide +kernel)
theorem dX8_bits_53 : decode cX8_bits 53 = .ok (.iload_n 1, 1) := do_1b DX8_bits_53
theorem dX8_bits_54 : decode cX8_bits 54 = .ok (.ifCond .ne 9, 3) := do_9a DX8_bits_54 (by decide +kernel)
theorem dX8_bits_57 : decode cX8_bits 57 = .ok (.iload_n 2, 1) := do_1c DX8_bits_57
theorem dX8_bits_58 : decode cX8_bits 58 = .ok (.iconst 1, 1) := do_04 DX8_bits_58
theorem dX8_bits_59 : decode cX8_bits 59 = .ok (.iadd, 1) := do_60 DX8_bits_59
theorem dX8_bits_60 : decode cX8_bits 60 = .ok (.goto 14, 3) := do_a7 DX8_bits_60 (by decide +kernel)
theorem dX8_bits_63 : decode cX8_bits 63 = .ok (.iload_n 1, 1) := do_1b DX8_bits_63
theorem dX8_bits_64 : decode cX8_bits 64 = .ok (.iconst 1, 1) := do_04 DX8_bits_64
theorem dX8_bits_65 : decode cX8_bits 65 = .ok (.if_icmp .ne 8, 3) := do_a0 DX8_bits_65 (by decide +kernel)
theorem dX8_bits_68 : decode cX8_bits 68 = .ok (.iload 4, 2) := do_15 DX8_bits_68
theorem dX8_bits_70 : decode cX8_bits 70 = .ok (.goto 4, 3) := do_a7 DX8_bits_70 (by decide +kernel)
theorem dX8_bits_73 : decode cX8_bits 73 = .ok (.iload_n 3, 1) := do_1d DX8_bits_73
theorem dX8_bits_74 : decode cX8_bits 74 = .ok (.ireturn, 1) := do_ac DX8_bits_74
def TX8_isLong_16 : List UInt8 := []
def TX8_isLong_15 : List UInt8 := 172 :: TX8_isLong_16
def TX8_isLong_14 : List UInt8 := 3 :: TX8_isLong_15
def TX8_isLong_11 : List UInt8 := 167 :: 0 :: 4 :: TX8_isLong_14
def TX8_isLong_10 : List UInt8 := 4 :: TX8_isLong_11
def TX8_isLong_7 : List UInt8 := 164 :: 0 :: 7 :: TX8_isLong_10
def TX8_isLong_5 : List UInt8 := 16 :: 80 :: TX8_isLong_7
def TX8_isLong_2 : List UInt8 := 184 :: 0 :: 121 :: TX8_isLong_5
def TX8_isLong_1 : List UInt8 := 3 :: TX8_isLong_2
def TX8_isLong_0 : List UInt8 := 42 :: TX8_isLong_1
theorem DX8_isLong_0 : cX8_isLong.data.toList.drop 0 = TX8_isLong_0 := by decide +kernel
theorem DX8_isLong_1 : cX8_isLong.data.toList.drop 1 = TX8_isLong_1 := dr1 DX8_isLong_0
theorem DX8_isLong_2 : cX8_isLong.data.toList.drop 2 = TX8_isLong_2 := dr1 DX8_isLong_1
theorem DX8_isLong_5 : cX8_isLong.data.toList.drop 5 = TX8_isLong_5 := dr3 DX8_isLong_2
theorem DX8_isLong_7 : cX8_isLong.data.toList.drop 7 = TX8_isLong_7 := dr2 DX8_isLong_5
theorem DX8_isLong_10 : cX8_isLong.data.toList.drop 10 = TX8_isLong_10 := dr3 DX8_isLong_7
theorem DX8_isLong_11 : cX8_isLong.data.toList.drop 11 = TX8_isLong_11 := dr1 DX8_isLong_10
theorem DX8_isLong_14 : cX8_isLong.data.toList.drop 14 = TX8_isLong_14 := dr3 DX8_isLong_11
theorem DX8_isLong_15 : cX8_isLong.data.toList.drop 15 = TX8_isLong_15 := dr1 DX8_isLong_14
theorem dX8_isLong_0 : decode cX8_isLong 0 = .ok (.aload_n 0, 1) := do_2a DX8_isLong_0
theorem dX8_isLong_1 : decode cX8_isLong 1 = .ok (.iconst 0, 1) := do_03 DX8_isLong_1
theorem dX8_isLong_2 : decode cX8_isLong 2 = .ok (.invokestatic 121, 3) := do_b8 DX8_isLong_2
theorem dX8_isLong_5 : decode cX8_isLong 5 = .ok (.bipush 80, 2) := do_10 DX8_isLong_5 (by decide +kernel)
theorem dX8_isLong_7 : decode cX8_isLong 7 = .ok (.if_icmp .le 7, 3) := do_a4 DX8_isLong_7 (by decide +kernel)
theorem dX8_isLong_10 : decode cX8_isLong 10 = .ok (.iconst 1, 1) := do_04 DX8_isLong_10
theorem dX8_isLong_11 : decode cX8_isLong 11 = .ok (.goto 4, 3) := do_a7 DX8_isLong_11 (by decide +kernel)
theorem dX8_isLong_14 : decode cX8_isLong 14 = .ok (.iconst 0, 1) := do_03 DX8_isLong_14
theorem dX8_isLong_15 : decode cX8_isLong 15 = .ok (.ireturn, 1) := do_ac DX8_isLong_15
def TX8_norm_22 : List UInt8 := []
def TX8_norm_21 : List UInt8 := 176 :: TX8_norm_22
def TX8_norm_18 : List UInt8 := 184 :: 0 :: 127 :: TX8_norm_21
def TX8_norm_15 : List UInt8 := 184 :: 0 :: 124 :: TX8_norm_18
def TX8_norm_12 : List UInt8 := 184 :: 0 :: 124 :: TX8_norm_15
def TX8_norm_11 : List UInt8 := 44 :: TX8_norm_12
def TX8_norm_10 : List UInt8 := 44 :: TX8_norm_11
def TX8_norm_7 : List UInt8 := 184 :: 0 :: 20 :: TX8_norm_10
def TX8_norm_6 : List UInt8 := 133 :: TX8_norm_7
def TX8_norm_5 : List UInt8 := 26 :: TX8_norm_6
def TX8_norm_2 : List UInt8 := 184 :: 0 :: 124 :: TX8_norm_5
def TX8_norm_1 : List UInt8 := 43 :: TX8_norm_2
def TX8_norm_0 : List UInt8 := 43 :: TX8_norm_1
theorem DX8_norm_0 : cX8_norm.data.toList.drop 0 = TX8_norm_0 := by decide +kernel
theorem DX8_norm_1 : cX8_norm.data.toList.drop 1 = TX8_norm_1 := dr1 DX8_norm_0
theorem DX8_norm_2 : cX8_norm.data.toList.drop 2 = TX8_norm_2 := dr1 DX8_norm_1
theorem DX8_norm_5 : cX8_norm.data.toList.drop 5 = TX8_norm_5 := dr3 DX8_norm_2
theorem DX8_norm_6 : cX8_norm.data.toList.drop 6 = TX8_norm_6 := dr1 DX8_norm_5
theorem DX8_norm_7 : cX8_norm.data.toList.drop 7 = TX8_norm_7 := dr1 DX8_norm_6
theorem DX8_norm_10 : cX8_norm.data.toList.drop 10 = TX8_norm_10 := dr3 DX8_norm_7
theorem DX8_norm_11 : cX8_norm.data.toList.drop 11 = TX8_norm_11 := dr1 DX8_norm_10
theorem DX8_norm_12 : cX8_norm.data.toList.drop 12 = TX8_norm_12 := dr1 DX8_norm_11
theorem DX8_norm_15 : cX8_norm.data.toList.drop 15 = TX8_norm_15 := dr3 DX8_norm_12
theorem DX8_norm_18 : cX8_norm.data.toList.drop 18 = TX8_norm_18 := dr3 DX8_norm_15
theorem DX8_norm_21 : cX8_norm.data.toList.drop 21 = TX8_norm_21 := dr3 DX8_norm_18
theorem dX8_norm_0 : decode cX8_norm 0 = .ok (.aload_n 1, 1) := do_2b DX8_norm_0
theorem dX8_norm_1 : decode cX8_norm 1 = .ok (.aload_n 1, 1) := do_2b DX8_norm_1
theorem dX8_norm_2 : decode cX8_norm 2 = .ok (.invokestatic 124, 3) := do_b8 DX8_norm_2
theorem dX8_norm_5 : decode cX8_norm 5 = .ok (.iload_n 0, 1) := do_1a DX8_norm_5
theorem dX8_norm_6 : decode cX8_norm 6 = .ok (.i2l, 1) := do_85 DX8_norm_6
theorem dX8_norm_7 : decode cX8_norm 7 = .ok (.invokestatic 20, 3) := do_b8 DX8_norm_7
theorem dX8_norm_10 : decode cX8_norm 10 = .ok (.aload_n 2, 1) := do_2c DX8_norm_10
theorem dX8_norm_11 : decode cX8_norm 11 = .ok (.aload_n 2, 1) := do_2c DX8_norm_11
theorem dX8_norm_12 : decode cX8_norm 12 = .ok (.invokestatic 124, 3) := do_b8 DX8_norm_12
theorem dX8_norm_15 : decode cX8_norm 15 = .ok (.invokestatic 124, 3) := do_b8 DX8_norm_15
theorem dX8_norm_18 : decode cX8_norm 18 = .ok (.invokestatic 127, 3) := do_b8 DX8_norm_18
theorem dX8_norm_21 : decode cX8_norm 21 = .ok (.areturn, 1) := do_b0 DX8_norm_21
def TX8_root_21 : List UInt8 := []
def TX8_root_20 : List UInt8 := 172 :: TX8_root_21
def TX8_root_19 : List UInt8 := 27 :: TX8_root_20
def TX8_root_16 : List UInt8 := 167 :: 255 :: 242 :: TX8_root_19
def TX8_root_13 : List UInt8 := 132 :: 1 :: 1 :: TX8_root_16
def TX8_root_10 : List UInt8 := 163 :: 0 :: 9 :: TX8_root_13
def TX8_root_9 : List UInt8 := 26 :: TX8_root_10
def TX8_root_8 : List UInt8 := 104 :: TX8_root_9
def TX8_root_7 : List UInt8 := 96 :: TX8_root_8
def TX8_root_6 : List UInt8 := 4 :: TX8_root_7
def TX8_root_5 : List UInt8 := 27 :: TX8_root_6
def TX8_root_4 : List UInt8 := 96 :: TX8_root_5
def TX8_root_3 : List UInt8 := 4 :: TX8_root_4
def TX8_root_2 : List UInt8 := 27 :: TX8_root_3
def TX8_root_1 : List UInt8 := 60 :: TX8_root_2
def TX8_root_0 : List UInt8 := 3 :: TX8_root_1
theorem DX8_root_0 : cX8_root.data.toList.drop 0 = TX8_root_0 := by decide +kernel
theorem DX8_root_1 : cX8_root.data.toList.drop 1 = TX8_root_1 := dr1 DX8_root_0
theorem DX8_root_2 : cX8_root.data.toList.drop 2 = TX8_root_2 := dr1 DX8_root_1
theorem DX8_root_3 : cX8_root.data.toList.drop 3 = TX8_root_3 := dr1 DX8_root_2
theorem DX8_root_4 : cX8_root.data.toList.drop 4 = TX8_root_4 := dr1 DX8_root_3
theorem DX8_root_5 : cX8_root.data.toList.drop 5 = TX8_root_5 := dr1 DX8_root_4
theorem DX8_root_6 : cX8_root.data.toList.drop 6 = TX8_root_6 := dr1 DX8_root_5
theorem DX8_root_7 : cX8_root.data.toList.drop 7 = TX8_root_7 := dr1 DX8_root_6
theorem DX8_root_8 : cX8_root.data.toList.drop 8 = TX8_root_8 := dr1 DX8_root_7
theorem DX8_root_9 : cX8_root.data.toList.drop 9 = TX8_root_9 := dr1 DX8_root_8
theorem DX8_root_10 : cX8_root.data.toList.drop 10 = TX8_root_10 := dr1 DX8_root_9
theorem DX8_root_13 : cX8_root.data.toList.drop 13 = TX8_root_13 := dr3 DX8_root_10
theorem DX8_root_16 : cX8_root.data.toList.drop 16 = TX8_root_16 := dr3 DX8_root_13
theorem DX8_root_19 : cX8_root.data.toList.drop 19 = TX8_root_19 := dr3 DX8_root_16
theorem DX8_root_20 : cX8_root.data.toList.drop 20 = TX8_root_20 := dr1 DX8_root_19
theorem dX8_root_0 : decode cX8_root 0 = .ok (.iconst 0, 1) := do_03 DX8_root_0
theorem dX8_root_1 : decode cX8_root 1 = .ok (.istore_n 1, 1) := do_3c DX8_root_1
theorem dX8_root_2 : decode cX8_root 2 = .ok (.iload_n 1, 1) := do_1b DX8_root_2
theorem dX8_root_3 : decode cX8_root 3 = .ok (.iconst 1, 1) := do_04 DX8_root_3
theorem dX8_root_4 : decode cX8_root 4 = .ok (.iadd, 1) := do_60 DX8_root_4
theorem dX8_root_5 : decode cX8_root 5 = .ok (.iload_n 1, 1) := do_1b DX8_root_5
theorem dX8_root_6 : decode cX8_root 6 = .ok (.iconst 1, 1) := do_04 DX8_root_6
theorem dX8_root_7 : decode cX8_root 7 = .ok (.iadd, 1) := do_60 DX8_root_7
theorem dX8_root_8 : decode cX8_root 8 = .ok (.imul, 1) := do_68 DX8_root_8
theorem dX8_root_9 : decode cX8_root 9 = .ok (.iload_n 0, 1) := do_1a DX8_root_9
theorem dX8_root_10 : decode cX8_root 10 = .ok (.if_icmp .gt 9, 3) := do_a3 DX8_root_10 (by decide +kernel)
theorem dX8_root_13 : decode cX8_root 13 = .ok (.iinc 1 1, 3) := do_84 DX8_root_13
theorem dX8_root_16 : decode cX8_root 16 = .ok (.goto (-14), 3) := do_a7 DX8_root_16 (by decide +kernel)
theorem dX8_root_19 : decode cX8_root 19 = .ok (.iload_n 1, 1) := do_1b DX8_root_19
theorem dX8_root_20 : decode cX8_root 20 = .ok (.ireturn, 1) := do_ac DX8_root_20
def TX8_isNoBase_29 : List UInt8 := []
def TX8_isNoBase_28 : List UInt8 := 172 :: TX8_isNoBase_29
def TX8_isNoBase_27 : List UInt8 := 3 :: TX8_isNoBase_28
def TX8_isNoBase_24 : List UInt8 := 167 :: 0 :: 4 :: TX8_isNoBase_27
def TX8_isNoBase_23 : List UInt8 := 4 :: TX8_isNoBase_24
def TX8_isNoBase_20 : List UInt8 := 160 :: 0 :: 7 :: TX8_isNoBase_23
def TX8_isNoBase_19 : List UInt8 := 26 :: TX8_isNoBase_20
def TX8_isNoBase_18 : List UInt8 := 104 :: TX8_isNoBase_19
def TX8_isNoBase_15 : List UInt8 := 184 :: 0 :: 130 :: TX8_isNoBase_18
def TX8_isNoBase_14 : List UInt8 := 26 :: TX8_isNoBase_15
def TX8_isNoBase_11 : List UInt8 := 184 :: 0 :: 130 :: TX8_isNoBase_14
def TX8_isNoBase_10 : List UInt8 := 26 :: TX8_isNoBase_11
def TX8_isNoBase_7 : List UInt8 := 153 :: 0 :: 16 :: TX8_isNoBase_10
def TX8_isNoBase_4 : List UInt8 := 184 :: 0 :: 49 :: TX8_isNoBase_7
def TX8_isNoBase_2 : List UInt8 := 16 :: 99 :: TX8_isNoBase_4
def TX8_isNoBase_1 : List UInt8 := 5 :: TX8_isNoBase_2
def TX8_isNoBase_0 : List UInt8 := 26 :: TX8_isNoBase_1
theorem DX8_isNoBase_0 : cX8_isNoBase.data.toList.drop 0 = TX8_isNoBase_0 := by decide +kernel
theorem DX8_isNoBase_1 : cX8_isNoBase.data.toList.drop 1 = TX8_isNoBase_1 := dr1 DX8_isNoBase_0
theorem DX8_isNoBase_2 : cX8_isNoBase.data.toList.drop 2 = TX8_isNoBase_2 := dr1 DX8_isNoBase_1
theorem DX8_isNoBase_4 : cX8_isNoBase.data.toList.drop 4 = TX8_isNoBase_4 := dr2 DX8_isNoBase_2
theorem DX8_isNoBase_7 : cX8_isNoBase.data.toList.drop 7 = TX8_isNoBase_7 := dr3 DX8_isNoBase_4
theorem DX8_isNoBase_10 : cX8_isNoBase.data.toList.drop 10 = TX8_isNoBase_10 := dr3 DX8_isNoBase_7
theorem DX8_isNoBase_11 : cX8_isNoBase.data.toList.drop 11 = TX8_isNoBase_11 := dr1 DX8_isNoBase_10
theorem DX8_isNoBase_14 : cX8_isNoBase.data.toList.drop 14 = TX8_isNoBase_14 := dr3 DX8_isNoBase_11
theorem DX8_isNoBase_15 : cX8_isNoBase.data.toList.drop 15 = TX8_isNoBase_15 := dr1 DX8_isNoBase_14
theorem DX8_isNoBase_18 : cX8_isNoBase.data.toList.drop 18 = TX8_isNoBase_18 := dr3 DX8_isNoBase_15
theorem DX8_isNoBase_19 : cX8_isNoBase.data.toList.drop 19 = TX8_isNoBase_19 := dr1 DX8_isNoBase_18
theorem DX8_isNoBase_20 : cX8_isNoBase.data.toList.drop 20 = TX8_isNoBase_20 := dr1 DX8_isNoBase_19
theorem DX8_isNoBase_23 : cX8_isNoBase.data.toList.drop 23 = TX8_isNoBase_23 := dr3 DX8_isNoBase_20
theorem DX8_isNoBase_24 : cX8_isNoBase.data.toList.drop 24 = TX8_isNoBase_24 := dr1 DX8_isNoBase_23
theorem DX8_isNoBase_27 : cX8_isNoBase.data.toList.drop 27 = TX8_isNoBase_27 := dr3 DX8_isNoBase_24
theorem DX8_isNoBase_28 : cX8_isNoBase.data.toList.drop 28 = TX8_isNoBase_28 := dr1 DX8_isNoBase_27
theorem dX8_isNoBase_0 : decode cX8_isNoBase 0 = .ok (.iload_n 0, 1) := do_1a DX8_isNoBase_0
theorem dX8_isNoBase_1 : decode cX8_isNoBase 1 = .ok (.iconst 2, 1) := do_05 DX8_isNoBase_1
theorem dX8_isNoBase_2 : decode cX8_isNoBase 2 = .ok (.bipush 99, 2) := do_10 DX8_isNoBase_2 (by decide +kernel)
theorem dX8_isNoBase_4 : decode cX8_isNoBase 4 = .ok (.invokestatic 49, 3) := do_b8 DX8_isNoBase_4
theorem dX8_isNoBase_7 : decode cX8_isNoBase 7 = .ok (.ifCond .eq 16, 3) := do_99 DX8_isNoBase_7 (by decide +kernel)
theorem dX8_isNoBase_10 : decode cX8_isNoBase 10 = .ok (.iload_n 0, 1) := do_1a DX8_isNoBase_10
theorem dX8_isNoBase_11 : decode cX8_isNoBase 11 = .ok (.invokestatic 130, 3) := do_b8 DX8_isNoBase_11
theorem dX8_isNoBase_14 : decode cX8_isNoBase 14 = .ok (.iload_n 0, 1) := do_1a DX8_isNoBase_14
theorem dX8_isNoBase_15 : decode cX8_isNoBase 15 = .ok (.invokestatic 130, 3) := do_b8 DX8_isNoBase_15
theorem dX8_isNoBase_18 : decode cX8_isNoBase 18 = .ok (.imul, 1) := do_68 DX8_isNoBase_18
theorem dX8_isNoBase_19 : decode cX8_isNoBase 19 = .ok (.iload_n 0, 1) := do_1a DX8_isNoBase_19
theorem dX8_isNoBase_20 : decode cX8_isNoBase 20 = .ok (.if_icmp .ne 7, 3) := do_a0 DX8_isNoBase_20 (by decide +kernel)
theorem dX8_isNoBase_23 : decode cX8_isNoBase 23 = .ok (.iconst 1, 1) := do_04 DX8_isNoBase_23
theorem dX8_isNoBase_24 : decode cX8_isNoBase 24 = .ok (.goto 4, 3) := do_a7 DX8_isNoBase_24 (by decide +kernel)
theorem dX8_isNoBase_27 : decode cX8_isNoBase 27 = .ok (.iconst 0, 1) := do_03 DX8_isNoBase_27
theorem dX8_isNoBase_28 : decode cX8_isNoBase 28 = .ok (.ireturn, 1) := do_ac DX8_isNoBase_28
def TX8_terms_80 : List UInt8 := []
def TX8_terms_79 : List UInt8 := 176 :: TX8_terms_80
def TX8_terms_78 : List UInt8 := 45 :: TX8_terms_79
def TX8_terms_75 : List UInt8 := 167 :: 255 :: 205 :: TX8_terms_78
def TX8_terms_72 : List UInt8 := 132 :: 4 :: 1 :: TX8_terms_75
def TX8_terms_71 : List UInt8 := 79 :: TX8_terms_72
def TX8_terms_70 : List UInt8 := 108 :: TX8_terms_71
def TX8_terms_69 : List UInt8 := 46 :: TX8_terms_70
def TX8_terms_68 : List UInt8 := 4 :: TX8_terms_69
def TX8_terms_67 : List UInt8 := 45 :: TX8_terms_68
def TX8_terms_66 : List UInt8 := 96 :: TX8_terms_67
def TX8_terms_65 : List UInt8 := 46 :: TX8_terms_66
def TX8_terms_64 : List UInt8 := 3 :: TX8_terms_65
def TX8_terms_63 : List UInt8 := 45 :: TX8_terms_64
def TX8_terms_62 : List UInt8 := 28 :: TX8_terms_63
def TX8_terms_61 : List UInt8 := 5 :: TX8_terms_62
def TX8_terms_60 : List UInt8 := 45 :: TX8_terms_61
def TX8_terms_59 : List UInt8 := 79 :: TX8_terms_60
def TX8_terms_58 : List UInt8 := 108 :: TX8_terms_59
def TX8_terms_57 : List UInt8 := 46 :: TX8_terms_58
def TX8_terms_56 : List UInt8 := 4 :: TX8_terms_57
def TX8_terms_55 : List UInt8 := 45 :: TX8_terms_56
def TX8_terms_54 : List UInt8 := 100 :: TX8_terms_55
def TX8_terms_53 : List UInt8 := 104 :: TX8_terms_54
def TX8_terms_52 : List UInt8 := 46 :: TX8_terms_53
def TX8_terms_51 : List UInt8 := 3 :: TX8_terms_52
def TX8_terms_50 : List UInt8 := 45 :: TX8_terms_51
def TX8_terms_49 : List UInt8 := 46 :: TX8_terms_50
def TX8_terms_48 : List UInt8 := 3 :: TX8_terms_49
def TX8_terms_47 : List UInt8 := 45 :: TX8_terms_48
def TX8_terms_46 : List UInt8 := 26 :: TX8_terms_47
def TX8_terms_45 : List UInt8 := 4 :: TX8_terms_46
def TX8_terms_44 : List UInt8 := 45 :: TX8_terms_45
def TX8_terms_43 : List UInt8 := 79 :: TX8_terms_44
def TX8_terms_42 : List UInt8 := 100 :: TX8_terms_43
def TX8_terms_41 : List UInt8 := 46 :: TX8_terms_42
def TX8_terms_40 : List UInt8 := 3 :: TX8_terms_41
def TX8_terms_39 : List UInt8 := 45 :: TX8_terms_40
def TX8_terms_38 : List UInt8 := 104 :: TX8_terms_39
def TX8_terms_37 : List UInt8 := 46 :: TX8_terms_38
def TX8_terms_36 : List UInt8 := 5 :: TX8_terms_37
def TX8_terms_35 : List UInt8 := 45 :: TX8_terms_36
def TX8_terms_34 : List UInt8 := 46 :: TX8_terms_35
def TX8_terms_33 : List UInt8 := 4 :: TX8_terms_34
def TX8_terms_32 : List UInt8 := 45 :: TX8_terms_33
def TX8_terms_31 : List UInt8 := 3 :: TX8_terms_32
def TX8_terms_30 : List UInt8 := 45 :: TX8_terms_31
def TX8_terms_27 : List UInt8 := 162 :: 0 :: 51 :: TX8_terms_30
def TX8_terms_26 : List UInt8 := 27 :: TX8_terms_27
def TX8_terms_24 : List UInt8 := 21 :: 4 :: TX8_terms_26
def TX8_terms_22 : List UInt8 := 54 :: 4 :: TX8_terms_24
def TX8_terms_21 : List UInt8 := 3 :: TX8_terms_22
def TX8_terms_20 : List UInt8 := 78 :: TX8_terms_21
def TX8_terms_19 : List UInt8 := 79 :: TX8_terms_20
def TX8_terms_18 : List UInt8 := 28 :: TX8_terms_19
def TX8_terms_17 : List UInt8 := 5 :: TX8_terms_18
def TX8_terms_16 : List UInt8 := 89 :: TX8_terms_17
def TX8_terms_15 : List UInt8 := 79 :: TX8_terms_16
def TX8_terms_14 : List UInt8 := 4 :: TX8_terms_15
def TX8_terms_13 : List UInt8 := 4 :: TX8_terms_14
def TX8_terms_12 : List UInt8 := 89 :: TX8_terms_13
def TX8_terms_11 : List UInt8 := 79 :: TX8_terms_12
def TX8_terms_10 : List UInt8 := 3 :: TX8_terms_11
def TX8_terms_9 : List UInt8 := 3 :: TX8_terms_10
def TX8_terms_8 : List UInt8 := 89 :: TX8_terms_9
def TX8_terms_6 : List UInt8 := 188 :: 10 :: TX8_terms_8
def TX8_terms_5 : List UInt8 := 6 :: TX8_terms_6
def TX8_terms_4 : List UInt8 := 61 :: TX8_terms_5
def TX8_terms_1 : List UInt8 := 184 :: 0 :: 130 :: TX8_terms_4
def TX8_terms_0 : List UInt8 := 26 :: TX8_terms_1
theorem DX8_terms_0 : cX8_terms.data.toList.drop 0 = TX8_terms_0 := by decide +kernel
theorem DX8_terms_1 : cX8_terms.data.toList.drop 1 = TX8_terms_1 := dr1 DX8_terms_0
theorem DX8_terms_4 : cX8_terms.data.toList.drop 4 = TX8_terms_4 := dr3 DX8_terms_1
theorem DX8_terms_5 : cX8_terms.data.toList.drop 5 = TX8_terms_5 := dr1 DX8_terms_4
theorem DX8_terms_6 : cX8_terms.data.toList.drop 6 = TX8_terms_6 := dr1 DX8_terms_5
theorem DX8_terms_8 : cX8_terms.data.toList.drop 8 = TX8_terms_8 := dr2 DX8_terms_6
theorem DX8_terms_9 : cX8_terms.data.toList.drop 9 = TX8_terms_9 := dr1 DX8_terms_8
theorem DX8_terms_10 : cX8_terms.data.toList.drop 10 = TX8_terms_10 := dr1 DX8_terms_9
theorem DX8_terms_11 : cX8_terms.data.toList.drop 11 = TX8_terms_11 := dr1 DX8_terms_10
theorem DX8_terms_12 : cX8_terms.data.toList.drop 12 = TX8_terms_12 := dr1 DX8_terms_11
theorem DX8_terms_13 : cX8_terms.data.toList.drop 13 = TX8_terms_13 := dr1 DX8_terms_12
theorem DX8_terms_14 : cX8_terms.data.toList.drop 14 = TX8_terms_14 := dr1 DX8_terms_13
theorem DX8_terms_15 : cX8_terms.data.toList.drop 15 = TX8_terms_15 := dr1 DX8_terms_14
theorem DX8_terms_16 : cX8_terms.data.toList.drop 16 = TX8_terms_16 := dr1 DX8_terms_15
theorem DX8_terms_17 : cX8_terms.data.toList.drop 17 = TX8_terms_17 := dr1 DX8_terms_16
theorem DX8_terms_18 : cX8_terms.data.toList.drop 18 = TX8_terms_18 := dr1 DX8_terms_17
theorem DX8_terms_19 : cX8_terms.data.toList.drop 19 = TX8_terms_19 := dr1 DX8_terms_18
theorem DX8_terms_20 : cX8_terms.data.toList.drop 20 = TX8_terms_20 := dr1 DX8_terms_19
theorem DX8_terms_21 : cX8_terms.data.toList.drop 21 = TX8_terms_21 := dr1 DX8_terms_20
theorem DX8_terms_22 : cX8_terms.data.toList.drop 22 = TX8_terms_22 := dr1 DX8_terms_21
theorem DX8_terms_24 : cX8_terms.data.toList.drop 24 = TX8_terms_24 := dr2 DX8_terms_22
theorem DX8_terms_26 : cX8_terms.data.toList.drop 26 = TX8_terms_26 := dr2 DX8_terms_24
theorem DX8_terms_27 : cX8_terms.data.toList.drop 27 = TX8_terms_27 := dr1 DX8_terms_26
theorem DX8_terms_30 : cX8_terms.data.toList.drop 30 = TX8_terms_30 := dr3 DX8_terms_27
theorem DX8_terms_31 : cX8_terms.data.toList.drop 31 = TX8_terms_31 := dr1 DX8_terms_30
theorem DX8_terms_32 : cX8_terms.data.toList.drop 32 = TX8_terms_32 := dr1 DX8_terms_31
theorem DX8_terms_33 : cX8_terms.data.toList.drop 33 = TX8_terms_33 := dr1 DX8_terms_32
theorem DX8_terms_34 : cX8_terms.data.toList.drop 34 = TX8_terms_34 := dr1 DX8_terms_33
theorem DX8_terms_35 : cX8_terms.data.toList.drop 35 = TX8_terms_35 := dr1 DX8_terms_34
theorem DX8_terms_36 : cX8_terms.data.toList.drop 36 = TX8_terms_36 := dr1 DX8_terms_35
theorem DX8_terms_37 : cX8_terms.data.toList.drop 37 = TX8_terms_37 := dr1 DX8_terms_36
theorem DX8_terms_38 : cX8_terms.data.toList.drop 38 = TX8_terms_38 := dr1 DX8_terms_37
theorem DX8_terms_39 : cX8_terms.data.toList.drop 39 = TX8_terms_39 := dr1 DX8_terms_38
theorem DX8_terms_40 : cX8_terms.data.toList.drop 40 = TX8_terms_40 := dr1 DX8_terms_39
theorem DX8_terms_41 : cX8_terms.data.toList.drop 41 = TX8_terms_41 := dr1 DX8_terms_40
theorem DX8_terms_42 : cX8_terms.data.toList.drop 42 = TX8_terms_42 := dr1 DX8_terms_41
theorem DX8_terms_43 : cX8_terms.data.toList.drop 43 = TX8_terms_43 := dr1 DX8_terms_42
theorem DX8_terms_44 : cX8_terms.data.toList.drop 44 = TX8_terms_44 := dr1 DX8_terms_43
theorem DX8_terms_45 : cX8_terms.data.toList.drop 45 = TX8_terms_45 := dr1 DX8_terms_44
theorem DX8_terms_46 : cX8_terms.data.toList.drop 46 = TX8_terms_46 := dr1 DX8_terms_45
theorem DX8_terms_47 : cX8_terms.data.toList.drop 47 = TX8_terms_47 := dr1 DX8_terms_46
theorem DX8_terms_48 : cX8_terms.data.toList.drop 48 = TX8_terms_48 := dr1 DX8_terms_47
theorem DX8_terms_49 : cX8_terms.data.toList.drop 49 = TX8_terms_49 := dr1 DX8_terms_48
theorem DX8_terms_50 : cX8_terms.data.toList.drop 50 = TX8_terms_50 := dr1 DX8_terms_49
theorem DX8_terms_51 : cX8_terms.data.toList.drop 51 = TX8_terms_51 := dr1 DX8_terms_50
theorem DX8_terms_52 : cX8_terms.data.toList.drop 52 = TX8_terms_52 := dr1 DX8_terms_51
theorem DX8_terms_53 : cX8_terms.data.toList.drop 53 = TX8_terms_53 := dr1 DX8_terms_52
theorem DX8_terms_54 : cX8_terms.data.toList.drop 54 = TX8_terms_54 := dr1 DX8_terms_53
theorem DX8_terms_55 : cX8_terms.data.toList.drop 55 = TX8_terms_55 := dr1 DX8_terms_54
theorem DX8_terms_56 : cX8_terms.data.toList.drop 56 = TX8_terms_56 := dr1 DX8_terms_55
theorem DX8_terms_57 : cX8_terms.data.toList.drop 57 = TX8_terms_57 := dr1 DX8_terms_56
theorem DX8_terms_58 : cX8_terms.data.toList.drop 58 = TX8_terms_58 := dr1 DX8_terms_57
theorem DX8_terms_59 : cX8_terms.data.toList.drop 59 = TX8_terms_59 := dr1 DX8_terms_58
theorem DX8_terms_60 : cX8_terms.data.toList.drop 60 = TX8_terms_60 := dr1 DX8_terms_59
theorem DX8_terms_61 : cX8_terms.data.toList.drop 61 = TX8_terms_61 := dr1 DX8_terms_60
theorem DX8_terms_62 : cX8_terms.data.toList.drop 62 = TX8_terms_62 := dr1 DX8_terms_61
theorem DX8_terms_63 : cX8_terms.data.toList.drop 63 = TX8_terms_63 := dr1 DX8_terms_62
theorem DX8_terms_64 : cX8_terms.data.toList.drop 64 = TX8_terms_64 := dr1 DX8_terms_63
theorem DX8_terms_65 : cX8_terms.data.toList.drop 65 = TX8_terms_65 := dr1 DX8_terms_64
theorem DX8_terms_66 : cX8_terms.data.toList.drop 66 = TX8_terms_66 := dr1 DX8_terms_65
theorem DX8_terms_67 : cX8_terms.data.toList.drop 67 = TX8_terms_67 := dr1 DX8_terms_66
theorem DX8_terms_68 : cX8_terms.data.toList.drop 68 = TX8_terms_68 := dr1 DX8_terms_67
theorem DX8_terms_69 : cX8_terms.data.toList.drop 69 = TX8_terms_69 := dr1 DX8_terms_68
theorem DX8_terms_70 : cX8_terms.data.toList.drop 70 = TX8_terms_70 := dr1 DX8_terms_69
theorem DX8_terms_71 : cX8_terms.data.toList.drop 71 = TX8_terms_71 := dr1 DX8_terms_70
theorem DX8_terms_72 : cX8_terms.data.toList.drop 72 = TX8_terms_72 := dr1 DX8_terms_71
theorem DX8_terms_75 : cX8_terms.data.toList.drop 75 = TX8_terms_75 := dr3 DX8_terms_72
theorem DX8_terms_78 : cX8_terms.data.toList.drop 78 = TX8_terms_78 := dr3 DX8_terms_75
theorem DX8_terms_79 : cX8_terms.data.toList.drop 79 = TX8_terms_79 := dr1 DX8_terms_78
theorem dX8_terms_0 : decode cX8_terms 0 = .ok (.iload_n 0, 1) := do_1a DX8_terms_0
theorem dX8_terms_1 : decode cX8_terms 1 = .ok (.invokestatic 130, 3) := do_b8 DX8_terms_1
theorem dX8_terms_4 : decode cX8_terms 4 = .ok (.istore_n 2, 1) := do_3d DX8_terms_4
theorem dX8_terms_5 : decode cX8_terms 5 = .ok (.iconst 3, 1) := do_06 DX8_terms_5
theorem dX8_terms_6 : decode cX8_terms 6 = .ok (.newarray .int, 2) := by decide +kernel
theorem dX8_terms_8 : decode cX8_terms 8 = .ok (.dup, 1) := do_59 DX8_terms_8
theorem dX8_terms_9 : decode cX8_terms 9 = .ok (.iconst 0, 1) := do_03 DX8_terms_9
theorem dX8_terms_10 : decode cX8_terms 10 = .ok (.iconst 0, 1) := do_03 DX8_terms_10
theorem dX8_terms_11 : decode cX8_terms 11 = .ok (.iastore, 1) := do_4f DX8_terms_11
theorem dX8_terms_12 : decode cX8_terms 12 = .ok (.dup, 1) := do_59 DX8_terms_12
theorem dX8_terms_13 : decode cX8_terms 13 = .ok (.iconst 1, 1) := do_04 DX8_terms_13
theorem dX8_terms_14 : decode cX8_terms 14 = .ok (.iconst 1, 1) := do_04 DX8_terms_14
theorem dX8_terms_15 : decode cX8_terms 15 = .ok (.iastore, 1) := do_4f DX8_terms_15
theorem dX8_terms_16 : decode cX8_terms 16 = .ok (.dup, 1) := do_59 DX8_terms_16
theorem dX8_terms_17 : decode cX8_terms 17 = .ok (.iconst 2, 1) := do_05 DX8_terms_17
theorem dX8_terms_18 : decode cX8_terms 18 = .ok (.iload_n 2, 1) := do_1c DX8_terms_18
theorem dX8_terms_19 : decode cX8_terms 19 = .ok (.iastore, 1) := do_4f DX8_terms_19
theorem dX8_terms_20 : decode cX8_terms 20 = .ok (.astore_n 3, 1) := do_4e DX8_terms_20
theorem dX8_terms_21 : decode cX8_terms 21 = .ok (.iconst 0, 1) := do_03 DX8_terms_21
theorem dX8_terms_22 : decode cX8_terms 22 = .ok (.istore 4, 2) := do_36 DX8_terms_22
theorem dX8_terms_24 : decode cX8_terms 24 = .ok (.iload 4, 2) := do_15 DX8_terms_24
theorem dX8_terms_26 : decode cX8_terms 26 = .ok (.iload_n 1, 1) := do_1b DX8_terms_26
theorem dX8_terms_27 : decode cX8_terms 27 = .ok (.if_icmp .ge 51, 3) := do_a2 DX8_terms_27 (by decide +kernel)
theorem dX8_terms_30 : decode cX8_terms 30 = .ok (.aload_n 3, 1) := do_2d DX8_terms_30
theorem dX8_terms_31 : decode cX8_terms 31 = .ok (.iconst 0, 1) := do_03 DX8_terms_31
theorem dX8_terms_32 : decode cX8_terms 32 = .ok (.aload_n 3, 1) := do_2d DX8_terms_32
theorem dX8_terms_33 : decode cX8_terms 33 = .ok (.iconst 1, 1) := do_04 DX8_terms_33
theorem dX8_terms_34 : decode cX8_terms 34 = .ok (.iaload, 1) := do_2e DX8_terms_34
theorem dX8_terms_35 : decode cX8_terms 35 = .ok (.aload_n 3, 1) := do_2d DX8_terms_35
theorem dX8_terms_36 : decode cX8_terms 36 = .ok (.iconst 2, 1) := do_05 DX8_terms_36
theorem dX8_terms_37 : decode cX8_terms 37 = .ok (.iaload, 1) := do_2e DX8_terms_37
theorem dX8_terms_38 : decode cX8_terms 38 = .ok (.imul, 1) := do_68 DX8_terms_38
theorem dX8_terms_39 : decode cX8_terms 39 = .ok (.aload_n 3, 1) := do_2d DX8_terms_39
theorem dX8_terms_40 : decode cX8_terms 40 = .ok (.iconst 0, 1) := do_03 DX8_terms_40
theorem dX8_terms_41 : decode cX8_terms 41 = .ok (.iaload, 1) := do_2e DX8_terms_41
theorem dX8_terms_42 : decode cX8_terms 42 = .ok (.isub, 1) := do_64 DX8_terms_42
theorem dX8_terms_43 : decode cX8_terms 43 = .ok (.iastore, 1) := do_4f DX8_terms_43
theorem dX8_terms_44 : decode cX8_terms 44 = .ok (.aload_n 3, 1) := do_2d DX8_terms_44
theorem dX8_terms_45 : decode cX8_terms 45 = .ok (.iconst 1, 1) := do_04 DX8_terms_45
theorem dX8_terms_46 : decode cX8_terms 46 = .ok (.iload_n 0, 1) := do_1a DX8_terms_46
theorem dX8_terms_47 : decode cX8_terms 47 = .ok (.aload_n 3, 1) := do_2d DX8_terms_47
theorem dX8_terms_48 : decode cX8_terms 48 = .ok (.iconst 0, 1) := do_03 DX8_terms_48
theorem dX8_terms_49 : decode cX8_terms 49 = .ok (.iaload, 1) := do_2e DX8_terms_49
theorem dX8_terms_50 : decode cX8_terms 50 = .ok (.aload_n 3, 1) := do_2d DX8_terms_50
theorem dX8_terms_51 : decode cX8_terms 51 = .ok (.iconst 0, 1) := do_03 DX8_terms_51
theorem dX8_terms_52 : decode cX8_terms 52 = .ok (.iaload, 1) := do_2e DX8_terms_52
theorem dX8_terms_53 : decode cX8_terms 53 = .ok (.imul, 1) := do_68 DX8_terms_53
theorem dX8_terms_54 : decode cX8_terms 54 = .ok (.isub, 1) := do_64 DX8_terms_54
theorem dX8_terms_55 : decode cX8_terms 55 = .ok (.aload_n 3, 1) := do_2d DX8_terms_55
theorem dX8_terms_56 : decode cX8_terms 56 = .ok (.iconst 1, 1) := do_04 DX8_terms_56
theorem dX8_terms_57 : decode cX8_terms 57 = .ok (.iaload, 1) := do_2e DX8_terms_57
theorem dX8_terms_58 : decode cX8_terms 58 = .ok (.idiv, 1) := do_6c DX8_terms_58
theorem dX8_terms_59 : decode cX8_terms 59 = .ok (.iastore, 1) := do_4f DX8_terms_59
theorem dX8_terms_60 : decode cX8_terms 60 = .ok (.aload_n 3, 1) := do_2d DX8_terms_60
theorem dX8_terms_61 : decode cX8_terms 61 = .ok (.iconst 2, 1) := do_05 DX8_terms_61
theorem dX8_terms_62 : decode cX8_terms 62 = .ok (.iload_n 2, 1) := do_1c DX8_terms_62
theorem dX8_terms_63 : decode cX8_terms 63 = .ok (.aload_n 3, 1) := do_2d DX8_terms_63
theorem dX8_terms_64 : decode cX8_terms 64 = .ok (.iconst 0, 1) := do_03 DX8_terms_64
theorem dX8_terms_65 : decode cX8_terms 65 = .ok (.iaload, 1) := do_2e DX8_terms_65
theorem dX8_terms_66 : decode cX8_terms 66 = .ok (.iadd, 1) := do_60 DX8_terms_66
theorem dX8_terms_67 : decode cX8_terms 67 = .ok (.aload_n 3, 1) := do_2d DX8_terms_67
theorem dX8_terms_68 : decode cX8_terms 68 = .ok (.iconst 1, 1) := do_04 DX8_terms_68
theorem dX8_terms_69 : decode cX8_terms 69 = .ok (.iaload, 1) := do_2e DX8_terms_69
theorem dX8_terms_70 : decode cX8_terms 70 = .ok (.idiv, 1) := do_6c DX8_terms_70
theorem dX8_terms_71 : decode cX8_terms 71 = .ok (.iastore, 1) := do_4f DX8_terms_71
theorem dX8_terms_72 : decode cX8_terms 72 = .ok (.iinc 4 1, 3) := do_84 DX8_terms_72
theorem dX8_terms_75 : decode cX8_terms 75 = .ok (.goto (-51), 3) := do_a7 DX8_terms_75 (by decide +kernel)
theorem dX8_terms_78 : decode cX8_terms 78 = .ok (.aload_n 3, 1) := do_2d DX8_terms_78
theorem dX8_terms_79 : decode cX8_terms 79 = .ok (.areturn, 1) := do_b0 DX8_terms_79
def TX8_walked_320 : List UInt8 := []
def TX8_walked_319 : List UInt8 := 176 :: TX8_walked_320
def TX8_walked_318 : List UInt8 := 83 :: TX8_walked_319
def TX8_walked_315 : List UInt8 := 184 :: 0 :: 55 :: TX8_walked_318
def TX8_walked_314 : List UInt8 := 50 :: TX8_walked_315
def TX8_walked_313 : List UInt8 := 5 :: TX8_walked_314
def TX8_walked_311 : List UInt8 := 25 :: 6 :: TX8_walked_313
def TX8_walked_310 : List UInt8 := 4 :: TX8_walked_311
def TX8_walked_309 : List UInt8 := 6 :: TX8_walked_310
def TX8_walked_308 : List UInt8 := 89 :: TX8_walked_309
def TX8_walked_307 : List UInt8 := 83 :: TX8_walked_308
def TX8_walked_304 : List UInt8 := 184 :: 0 :: 55 :: TX8_walked_307
def TX8_walked_303 : List UInt8 := 50 :: TX8_walked_304
def TX8_walked_302 : List UInt8 := 3 :: TX8_walked_303
def TX8_walked_300 : List UInt8 := 25 :: 6 :: TX8_walked_302
def TX8_walked_299 : List UInt8 := 4 :: TX8_walked_300
def TX8_walked_298 : List UInt8 := 5 :: TX8_walked_299
def TX8_walked_297 : List UInt8 := 89 :: TX8_walked_298
def TX8_walked_296 : List UInt8 := 83 :: TX8_walked_297
def TX8_walked_293 : List UInt8 := 184 :: 0 :: 55 :: TX8_walked_296
def TX8_walked_292 : List UInt8 := 50 :: TX8_walked_293
def TX8_walked_291 : List UInt8 := 6 :: TX8_walked_292
def TX8_walked_289 : List UInt8 := 25 :: 6 :: TX8_walked_291
def TX8_walked_288 : List UInt8 := 4 :: TX8_walked_289
def TX8_walked_287 : List UInt8 := 4 :: TX8_walked_288
def TX8_walked_286 : List UInt8 := 89 :: TX8_walked_287
def TX8_walked_285 : List UInt8 := 83 :: TX8_walked_286
def TX8_walked_282 : List UInt8 := 184 :: 0 :: 55 :: TX8_walked_285
def TX8_walked_281 : List UInt8 := 50 :: TX8_walked_282
def TX8_walked_280 : List UInt8 := 4 :: TX8_walked_281
def TX8_walked_278 : List UInt8 := 25 :: 6 :: TX8_walked_280
def TX8_walked_277 : List UInt8 := 4 :: TX8_walked_278
def TX8_walked_276 : List UInt8 := 3 :: TX8_walked_277
def TX8_walked_275 : List UInt8 := 89 :: TX8_walked_276
def TX8_walked_272 : List UInt8 := 189 :: 0 :: 19 :: TX8_walked_275
def TX8_walked_271 : List UInt8 := 7 :: TX8_walked_272
def TX8_walked_268 : List UInt8 := 167 :: 255 :: 114 :: TX8_walked_271
def TX8_walked_265 : List UInt8 := 132 :: 7 :: 1 :: TX8_walked_268
def TX8_walked_262 : List UInt8 := 167 :: 255 :: 155 :: TX8_walked_265
def TX8_walked_259 : List UInt8 := 132 :: 8 :: 2 :: TX8_walked_262
def TX8_walked_258 : List UInt8 := 83 :: TX8_walked_259
def TX8_walked_256 : List UInt8 := 25 :: 9 :: TX8_walked_258
def TX8_walked_255 : List UInt8 := 96 :: TX8_walked_256
def TX8_walked_254 : List UInt8 := 4 :: TX8_walked_255
def TX8_walked_252 : List UInt8 := 21 :: 8 :: TX8_walked_254
def TX8_walked_250 : List UInt8 := 25 :: 6 :: TX8_walked_252
def TX8_walked_249 : List UInt8 := 83 :: TX8_walked_250
def TX8_walked_248 : List UInt8 := 50 :: TX8_walked_249
def TX8_walked_247 : List UInt8 := 96 :: TX8_walked_248
def TX8_walked_246 : List UInt8 := 4 :: TX8_walked_247
def TX8_walked_244 : List UInt8 := 21 :: 8 :: TX8_walked_246
def TX8_walked_242 : List UInt8 := 25 :: 6 :: TX8_walked_244
def TX8_walked_240 : List UInt8 := 21 :: 8 :: TX8_walked_242
def TX8_walked_238 : List UInt8 := 25 :: 6 :: TX8_walked_240
def TX8_walked_235 : List UInt8 := 167 :: 255 :: 201 :: TX8_walked_238
def TX8_walked_232 : List UInt8 := 132 :: 12 :: 1 :: TX8_walked_235
def TX8_walked_230 : List UInt8 := 55 :: 10 :: TX8_walked_232
def TX8_walked_229 : List UInt8 := 123 :: TX8_walked_230
def TX8_walked_227 : List UInt8 := 16 :: 30 :: TX8_walked_229
def TX8_walked_225 : List UInt8 := 22 :: 10 :: TX8_walked_227
def TX8_walked_224 : List UInt8 := 79 :: TX8_walked_225
def TX8_walked_223 : List UInt8 := 136 :: TX8_walked_224
def TX8_walked_222 : List UInt8 := 127 :: TX8_walked_223
def TX8_walked_219 : List UInt8 := 20 :: 0 :: 53 :: TX8_walked_222
def TX8_walked_217 : List UInt8 := 22 :: 10 :: TX8_walked_219
def TX8_walked_215 : List UInt8 := 21 :: 12 :: TX8_walked_217
def TX8_walked_213 : List UInt8 := 25 :: 9 :: TX8_walked_215
def TX8_walked_211 : List UInt8 := 55 :: 10 :: TX8_walked_213
def TX8_walked_210 : List UInt8 := 97 :: TX8_walked_211
def TX8_walked_209 : List UInt8 := 97 :: TX8_walked_210
def TX8_walked_208 : List UInt8 := 133 :: TX8_walked_209
def TX8_walked_207 : List UInt8 := 46 :: TX8_walked_208
def TX8_walked_205 : List UInt8 := 21 :: 12 :: TX8_walked_207
def TX8_walked_203 : List UInt8 := 25 :: 9 :: TX8_walked_205
def TX8_walked_202 : List UInt8 := 105 :: TX8_walked_203
def TX8_walked_201 : List UInt8 := 133 :: TX8_walked_202
def TX8_walked_200 : List UInt8 := 46 :: TX8_walked_201
def TX8_walked_198 : List UInt8 := 21 :: 12 :: TX8_walked_200
def TX8_walked_197 : List UInt8 := 50 :: TX8_walked_198
def TX8_walked_196 : List UInt8 := 96 :: TX8_walked_197
def TX8_walked_195 : List UInt8 := 4 :: TX8_walked_196
def TX8_walked_193 : List UInt8 := 21 :: 8 :: TX8_walked_195
def TX8_walked_191 : List UInt8 := 25 :: 6 :: TX8_walked_193
def TX8_walked_190 : List UInt8 := 133 :: TX8_walked_191
def TX8_walked_188 : List UInt8 := 21 :: 5 :: TX8_walked_190
def TX8_walked_186 : List UInt8 := 22 :: 10 :: TX8_walked_188
def TX8_walked_183 : List UInt8 := 162 :: 0 :: 55 :: TX8_walked_186
def TX8_walked_182 : List UInt8 := 8 :: TX8_walked_183
def TX8_walked_180 : List UInt8 := 21 :: 12 :: TX8_walked_182
def TX8_walked_178 : List UInt8 := 54 :: 12 :: TX8_walked_180
def TX8_walked_177 : List UInt8 := 4 :: TX8_walked_178
def TX8_walked_175 : List UInt8 := 55 :: 10 :: TX8_walked_177
def TX8_walked_174 : List UInt8 := 9 :: TX8_walked_175
def TX8_walked_172 : List UInt8 := 58 :: 9 :: TX8_walked_174
def TX8_walked_171 : List UInt8 := 50 :: TX8_walked_172
def TX8_walked_169 : List UInt8 := 21 :: 8 :: TX8_walked_171
def TX8_walked_167 : List UInt8 := 25 :: 6 :: TX8_walked_169
def TX8_walked_164 : List UInt8 := 162 :: 0 :: 101 :: TX8_walked_167
def TX8_walked_163 : List UInt8 := 7 :: TX8_walked_164
def TX8_walked_161 : List UInt8 := 21 :: 8 :: TX8_walked_163
def TX8_walked_159 : List UInt8 := 54 :: 8 :: TX8_walked_161
def TX8_walked_158 : List UInt8 := 3 :: TX8_walked_159
def TX8_walked_156 : List UInt8 := 54 :: 5 :: TX8_walked_158
def TX8_walked_155 : List UInt8 := 108 :: TX8_walked_156
def TX8_walked_153 : List UInt8 := 21 :: 4 :: TX8_walked_155
def TX8_walked_152 : List UInt8 := 96 :: TX8_walked_153
def TX8_walked_151 : List UInt8 := 29 :: TX8_walked_152
def TX8_walked_150 : List UInt8 := 28 :: TX8_walked_151
def TX8_walked_148 : List UInt8 := 54 :: 4 :: TX8_walked_150
def TX8_walked_147 : List UInt8 := 108 :: TX8_walked_148
def TX8_walked_145 : List UInt8 := 21 :: 4 :: TX8_walked_147
def TX8_walked_144 : List UInt8 := 100 :: TX8_walked_145
def TX8_walked_143 : List UInt8 := 104 :: TX8_walked_144
def TX8_walked_142 : List UInt8 := 29 :: TX8_walked_143
def TX8_walked_141 : List UInt8 := 29 :: TX8_walked_142
def TX8_walked_140 : List UInt8 := 26 :: TX8_walked_141
def TX8_walked_139 : List UInt8 := 62 :: TX8_walked_140
def TX8_walked_138 : List UInt8 := 100 :: TX8_walked_139
def TX8_walked_137 : List UInt8 := 29 :: TX8_walked_138
def TX8_walked_136 : List UInt8 := 104 :: TX8_walked_137
def TX8_walked_134 : List UInt8 := 21 :: 5 :: TX8_walked_136
def TX8_walked_132 : List UInt8 := 21 :: 4 :: TX8_walked_134
def TX8_walked_129 : List UInt8 := 162 :: 0 :: 142 :: TX8_walked_132
def TX8_walked_128 : List UInt8 := 27 :: TX8_walked_129
def TX8_walked_126 : List UInt8 := 21 :: 7 :: TX8_walked_128
def TX8_walked_124 : List UInt8 := 54 :: 7 :: TX8_walked_126
def TX8_walked_123 : List UInt8 := 3 :: TX8_walked_124
def TX8_walked_121 : List UInt8 := 58 :: 6 :: TX8_walked_123
def TX8_walked_120 : List UInt8 := 83 :: TX8_walked_121
def TX8_walked_119 : List UInt8 := 79 :: TX8_walked_120
def TX8_walked_118 : List UInt8 := 3 :: TX8_walked_119
def TX8_walked_117 : List UInt8 := 7 :: TX8_walked_118
def TX8_walked_116 : List UInt8 := 89 :: TX8_walked_117
def TX8_walked_115 : List UInt8 := 79 :: TX8_walked_116
def TX8_walked_114 : List UInt8 := 3 :: TX8_walked_115
def TX8_walked_113 : List UInt8 := 6 :: TX8_walked_114
def TX8_walked_112 : List UInt8 := 89 :: TX8_walked_113
def TX8_walked_111 : List UInt8 := 79 :: TX8_walked_112
def TX8_walked_110 : List UInt8 := 3 :: TX8_walked_111
def TX8_walked_109 : List UInt8 := 5 :: TX8_walked_110
def TX8_walked_108 : List UInt8 := 89 :: TX8_walked_109
def TX8_walked_107 : List UInt8 := 79 :: TX8_walked_108
def TX8_walked_106 : List UInt8 := 4 :: TX8_walked_107
def TX8_walked_105 : List UInt8 := 4 :: TX8_walked_106
def TX8_walked_104 : List UInt8 := 89 :: TX8_walked_105
def TX8_walked_103 : List UInt8 := 79 :: TX8_walked_104
def TX8_walked_102 : List UInt8 := 4 :: TX8_walked_103
def TX8_walked_101 : List UInt8 := 3 :: TX8_walked_102
def TX8_walked_100 : List UInt8 := 89 :: TX8_walked_101
def TX8_walked_98 : List UInt8 := 188 :: 10 :: TX8_walked_100
def TX8_walked_97 : List UInt8 := 8 :: TX8_walked_98
def TX8_walked_96 : List UInt8 := 6 :: TX8_walked_97
def TX8_walked_95 : List UInt8 := 89 :: TX8_walked_96
def TX8_walked_94 : List UInt8 := 83 :: TX8_walked_95
def TX8_walked_93 : List UInt8 := 79 :: TX8_walked_94
def TX8_walked_92 : List UInt8 := 3 :: TX8_walked_93
def TX8_walked_91 : List UInt8 := 7 :: TX8_walked_92
def TX8_walked_90 : List UInt8 := 89 :: TX8_walked_91
def TX8_walked_89 : List UInt8 := 79 :: TX8_walked_90
def TX8_walked_88 : List UInt8 := 3 :: TX8_walked_89
def TX8_walked_87 : List UInt8 := 6 :: TX8_walked_88
def TX8_walked_86 : List UInt8 := 89 :: TX8_walked_87
def TX8_walked_85 : List UInt8 := 79 :: TX8_walked_86
def TX8_walked_84 : List UInt8 := 3 :: TX8_walked_85
def TX8_walked_83 : List UInt8 := 5 :: TX8_walked_84
def TX8_walked_82 : List UInt8 := 89 :: TX8_walked_83
def TX8_walked_81 : List UInt8 := 79 :: TX8_walked_82
def TX8_walked_80 : List UInt8 := 3 :: TX8_walked_81
def TX8_walked_79 : List UInt8 := 4 :: TX8_walked_80
def TX8_walked_78 : List UInt8 := 89 :: TX8_walked_79
def TX8_walked_77 : List UInt8 := 79 :: TX8_walked_78
def TX8_walked_76 : List UInt8 := 4 :: TX8_walked_77
def TX8_walked_75 : List UInt8 := 3 :: TX8_walked_76
def TX8_walked_74 : List UInt8 := 89 :: TX8_walked_75
def TX8_walked_72 : List UInt8 := 188 :: 10 :: TX8_walked_74
def TX8_walked_71 : List UInt8 := 8 :: TX8_walked_72
def TX8_walked_70 : List UInt8 := 5 :: TX8_walked_71
def TX8_walked_69 : List UInt8 := 89 :: TX8_walked_70
def TX8_walked_68 : List UInt8 := 83 :: TX8_walked_69
def TX8_walked_67 : List UInt8 := 79 :: TX8_walked_68
def TX8_walked_66 : List UInt8 := 3 :: TX8_walked_67
def TX8_walked_65 : List UInt8 := 7 :: TX8_walked_66
def TX8_walked_64 : List UInt8 := 89 :: TX8_walked_65
def TX8_walked_63 : List UInt8 := 79 :: TX8_walked_64
def TX8_walked_62 : List UInt8 := 3 :: TX8_walked_63
def TX8_walked_61 : List UInt8 := 6 :: TX8_walked_62
def TX8_walked_60 : List UInt8 := 89 :: TX8_walked_61
def TX8_walked_59 : List UInt8 := 79 :: TX8_walked_60
def TX8_walked_58 : List UInt8 := 3 :: TX8_walked_59
def TX8_walked_57 : List UInt8 := 5 :: TX8_walked_58
def TX8_walked_56 : List UInt8 := 89 :: TX8_walked_57
def TX8_walked_55 : List UInt8 := 79 :: TX8_walked_56
def TX8_walked_54 : List UInt8 := 28 :: TX8_walked_55
def TX8_walked_53 : List UInt8 := 4 :: TX8_walked_54
def TX8_walked_52 : List UInt8 := 89 :: TX8_walked_53
def TX8_walked_51 : List UInt8 := 79 :: TX8_walked_52
def TX8_walked_50 : List UInt8 := 4 :: TX8_walked_51
def TX8_walked_49 : List UInt8 := 3 :: TX8_walked_50
def TX8_walked_48 : List UInt8 := 89 :: TX8_walked_49
def TX8_walked_46 : List UInt8 := 188 :: 10 :: TX8_walked_48
def TX8_walked_45 : List UInt8 := 8 :: TX8_walked_46
def TX8_walked_44 : List UInt8 := 4 :: TX8_walked_45
def TX8_walked_43 : List UInt8 := 89 :: TX8_walked_44
def TX8_walked_42 : List UInt8 := 83 :: TX8_walked_43
def TX8_walked_41 : List UInt8 := 79 :: TX8_walked_42
def TX8_walked_40 : List UInt8 := 3 :: TX8_walked_41
def TX8_walked_39 : List UInt8 := 7 :: TX8_walked_40
def TX8_walked_38 : List UInt8 := 89 :: TX8_walked_39
def TX8_walked_37 : List UInt8 := 79 :: TX8_walked_38
def TX8_walked_36 : List UInt8 := 3 :: TX8_walked_37
def TX8_walked_35 : List UInt8 := 6 :: TX8_walked_36
def TX8_walked_34 : List UInt8 := 89 :: TX8_walked_35
def TX8_walked_33 : List UInt8 := 79 :: TX8_walked_34
def TX8_walked_32 : List UInt8 := 3 :: TX8_walked_33
def TX8_walked_31 : List UInt8 := 5 :: TX8_walked_32
def TX8_walked_30 : List UInt8 := 89 :: TX8_walked_31
def TX8_walked_29 : List UInt8 := 79 :: TX8_walked_30
def TX8_walked_28 : List UInt8 := 4 :: TX8_walked_29
def TX8_walked_27 : List UInt8 := 4 :: TX8_walked_28
def TX8_walked_26 : List UInt8 := 89 :: TX8_walked_27
def TX8_walked_25 : List UInt8 := 79 :: TX8_walked_26
def TX8_walked_24 : List UInt8 := 4 :: TX8_walked_25
def TX8_walked_23 : List UInt8 := 3 :: TX8_walked_24
def TX8_walked_22 : List UInt8 := 89 :: TX8_walked_23
def TX8_walked_20 : List UInt8 := 188 :: 10 :: TX8_walked_22
def TX8_walked_19 : List UInt8 := 8 :: TX8_walked_20
def TX8_walked_18 : List UInt8 := 3 :: TX8_walked_19
def TX8_walked_17 : List UInt8 := 89 :: TX8_walked_18
def TX8_walked_14 : List UInt8 := 189 :: 0 :: 19 :: TX8_walked_17
def TX8_walked_13 : List UInt8 := 7 :: TX8_walked_14
def TX8_walked_11 : List UInt8 := 54 :: 5 :: TX8_walked_13
def TX8_walked_10 : List UInt8 := 28 :: TX8_walked_11
def TX8_walked_8 : List UInt8 := 54 :: 4 :: TX8_walked_10
def TX8_walked_7 : List UInt8 := 4 :: TX8_walked_8
def TX8_walked_6 : List UInt8 := 62 :: TX8_walked_7
def TX8_walked_5 : List UInt8 := 3 :: TX8_walked_6
def TX8_walked_4 : List UInt8 := 61 :: TX8_walked_5
def TX8_walked_1 : List UInt8 := 184 :: 0 :: 130 :: TX8_walked_4
def TX8_walked_0 : List UInt8 := 26 :: TX8_walked_1
theorem DX8_walked_0 : cX8_walked.data.toList.drop 0 = TX8_walked_0 := by decide +kernel
theorem DX8_walked_1 : cX8_walked.data.toList.drop 1 = TX8_walked_1 := dr1 DX8_walked_0
theorem DX8_walked_4 : cX8_walked.data.toList.drop 4 = TX8_walked_4 := dr3 DX8_walked_1
theorem DX8_walked_5 : cX8_walked.data.toList.drop 5 = TX8_walked_5 := dr1 DX8_walked_4
theorem DX8_walked_6 : cX8_walked.data.toList.drop 6 = TX8_walked_6 := dr1 DX8_walked_5
theorem DX8_walked_7 : cX8_walked.data.toList.drop 7 = TX8_walked_7 := dr1 DX8_walked_6
theorem DX8_walked_8 : cX8_walked.data.toList.drop 8 = TX8_walked_8 := dr1 DX8_walked_7
theorem DX8_walked_10 : cX8_walked.data.toList.drop 10 = TX8_walked_10 := dr2 DX8_walked_8
theorem DX8_walked_11 : cX8_walked.data.toList.drop 11 = TX8_walked_11 := dr1 DX8_walked_10
theorem DX8_walked_13 : cX8_walked.data.toList.drop 13 = TX8_walked_13 := dr2 DX8_walked_11
theorem DX8_walked_14 : cX8_walked.data.toList.drop 14 = TX8_walked_14 := dr1 DX8_walked_13
theorem DX8_walked_17 : cX8_walked.data.toList.drop 17 = TX8_walked_17 := dr3 DX8_walked_14
theorem DX8_walked_18 : cX8_walked.data.toList.drop 18 = TX8_walked_18 := dr1 DX8_walked_17
theorem DX8_walked_19 : cX8_walked.data.toList.drop 19 = TX8_walked_19 := dr1 DX8_walked_18
theorem DX8_walked_20 : cX8_walked.data.toList.drop 20 = TX8_walked_20 := dr1 DX8_walked_19
theorem DX8_walked_22 : cX8_walked.data.toList.drop 22 = TX8_walked_22 := dr2 DX8_walked_20
theorem DX8_walked_23 : cX8_walked.data.toList.drop 23 = TX8_walked_23 := dr1 DX8_walked_22
theorem DX8_walked_24 : cX8_walked.data.toList.drop 24 = TX8_walked_24 := dr1 DX8_walked_23
theorem DX8_walked_25 : cX8_walked.data.toList.drop 25 = TX8_walked_25 := dr1 DX8_walked_24
theorem DX8_walked_26 : cX8_walked.data.toList.drop 26 = TX8_walked_26 := dr1 DX8_walked_25
theorem DX8_walked_27 : cX8_walked.data.toList.drop 27 = TX8_walked_27 := dr1 DX8_walked_26
theorem DX8_walked_28 : cX8_walked.data.toList.drop 28 = TX8_walked_28 := dr1 DX8_walked_27
theorem DX8_walked_29 : cX8_walked.data.toList.drop 29 = TX8_walked_29 := dr1 DX8_walked_28
theorem DX8_walked_30 : cX8_walked.data.toList.drop 30 = TX8_walked_30 := dr1 DX8_walked_29
theorem DX8_walked_31 : cX8_walked.data.toList.drop 31 = TX8_walked_31 := dr1 DX8_walked_30
theorem DX8_walked_32 : cX8_walked.data.toList.drop 32 = TX8_walked_32 := dr1 DX8_walked_31
theorem DX8_walked_33 : cX8_walked.data.toList.drop 33 = TX8_walked_33 := dr1 DX8_walked_32
theorem DX8_walked_34 : cX8_walked.data.toList.drop 34 = TX8_walked_34 := dr1 DX8_walked_33
theorem DX8_walked_35 : cX8_walked.data.toList.drop 35 = TX8_walked_35 := dr1 DX8_walked_34
theorem DX8_walked_36 : cX8_walked.data.toList.drop 36 = TX8_walked_36 := dr1 DX8_walked_35
theorem DX8_walked_37 : cX8_walked.data.toList.drop 37 = TX8_walked_37 := dr1 DX8_walked_36
theorem DX8_walked_38 : cX8_walked.data.toList.drop 38 = TX8_walked_38 := dr1 DX8_walked_37
theorem DX8_walked_39 : cX8_walked.data.toList.drop 39 = TX8_walked_39 := dr1 DX8_walked_38
theorem DX8_walked_40 : cX8_walked.data.toList.drop 40 = TX8_walked_40 := dr1 DX8_walked_39
theorem DX8_walked_41 : cX8_walked.data.toList.drop 41 = TX8_walked_41 := dr1 DX8_walked_40
theorem DX8_walked_42 : cX8_walked.data.toList.drop 42 = TX8_walked_42 := dr1 DX8_walked_41
theorem DX8_walked_43 : cX8_walked.data.toList.drop 43 = TX8_walked_43 := dr1 DX8_walked_42
theorem DX8_walked_44 : cX8_walked.data.toList.drop 44 = TX8_walked_44 := dr1 DX8_walked_43
theorem DX8_walked_45 : cX8_walked.data.toList.drop 45 = TX8_walked_45 := dr1 DX8_walked_44
theorem DX8_walked_46 : cX8_walked.data.toList.drop 46 = TX8_walked_46 := dr1 DX8_walked_45
theorem DX8_walked_48 : cX8_walked.data.toList.drop 48 = TX8_walked_48 := dr2 DX8_walked_46
theorem DX8_walked_49 : cX8_walked.data.toList.drop 49 = TX8_walked_49 := dr1 DX8_walked_48
theorem DX8_walked_50 : cX8_walked.data.toList.drop 50 = TX8_walked_50 := dr1 DX8_walked_49
theorem DX8_walked_51 : cX8_walked.data.toList.drop 51 = TX8_walked_51 := dr1 DX8_walked_50
theorem DX8_walked_52 : cX8_walked.data.toList.drop 52 = TX8_walked_52 := dr1 DX8_walked_51
theorem DX8_walked_53 : cX8_walked.data.toList.drop 53 = TX8_walked_53 := dr1 DX8_walked_52
theorem DX8_walked_54 : cX8_walked.data.toList.drop 54 = TX8_walked_54 := dr1 DX8_walked_53
theorem DX8_walked_55 : cX8_walked.data.toList.drop 55 = TX8_walked_55 := dr1 DX8_walked_54
theorem DX8_walked_56 : cX8_walked.data.toList.drop 56 = TX8_walked_56 := dr1 DX8_walked_55
theorem DX8_walked_57 : cX8_walked.data.toList.drop 57 = TX8_walked_57 := dr1 DX8_walked_56
theorem DX8_walked_58 : cX8_walked.data.toList.drop 58 = TX8_walked_58 := dr1 DX8_walked_57
theorem DX8_walked_59 : cX8_walked.data.toList.drop 59 = TX8_walked_59 := dr1 DX8_walked_58
theorem DX8_walked_60 : cX8_walked.data.toList.drop 60 = TX8_walked_60 := dr1 DX8_walked_59
theorem DX8_walked_61 : cX8_walked.data.toList.drop 61 = TX8_walked_61 := dr1 DX8_walked_60
theorem DX8_walked_62 : cX8_walked.data.toList.drop 62 = TX8_walked_62 := dr1 DX8_walked_61
theorem DX8_walked_63 : cX8_walked.data.toList.drop 63 = TX8_walked_63 := dr1 DX8_walked_62
theorem DX8_walked_64 : cX8_walked.data.toList.drop 64 = TX8_walked_64 := dr1 DX8_walked_63
theorem DX8_walked_65 : cX8_walked.data.toList.drop 65 = TX8_walked_65 := dr1 DX8_walked_64
theorem DX8_walked_66 : cX8_walked.data.toList.drop 66 = TX8_walked_66 := dr1 DX8_walked_65
theorem DX8_walked_67 : cX8_walked.data.toList.drop 67 = TX8_walked_67 := dr1 DX8_walked_66
theorem DX8_walked_68 : cX8_walked.data.toList.drop 68 = TX8_walked_68 := dr1 DX8_walked_67
theorem DX8_walked_69 : cX8_walked.data.toList.drop 69 = TX8_walked_69 := dr1 DX8_walked_68
theorem DX8_walked_70 : cX8_walked.data.toList.drop 70 = TX8_walked_70 := dr1 DX8_walked_69
theorem DX8_walked_71 : cX8_walked.data.toList.drop 71 = TX8_walked_71 := dr1 DX8_walked_70
theorem DX8_walked_72 : cX8_walked.data.toList.drop 72 = TX8_walked_72 := dr1 DX8_walked_71
theorem DX8_walked_74 : cX8_walked.data.toList.drop 74 = TX8_walked_74 := dr2 DX8_walked_72
theorem DX8_walked_75 : cX8_walked.data.toList.drop 75 = TX8_walked_75 := dr1 DX8_walked_74
theorem DX8_walked_76 : cX8_walked.data.toList.drop 76 = TX8_walked_76 := dr1 DX8_walked_75
theorem DX8_walked_77 : cX8_walked.data.toList.drop 77 = TX8_walked_77 := dr1 DX8_walked_76
theorem DX8_walked_78 : cX8_walked.data.toList.drop 78 = TX8_walked_78 := dr1 DX8_walked_77
theorem DX8_walked_79 : cX8_walked.data.toList.drop 79 = TX8_walked_79 := dr1 DX8_walked_78
theorem DX8_walked_80 : cX8_walked.data.toList.drop 80 = TX8_walked_80 := dr1 DX8_walked_79
theorem DX8_walked_81 : cX8_walked.data.toList.drop 81 = TX8_walked_81 := dr1 DX8_walked_80
theorem DX8_walked_82 : cX8_walked.data.toList.drop 82 = TX8_walked_82 := dr1 DX8_walked_81
theorem DX8_walked_83 : cX8_walked.data.toList.drop 83 = TX8_walked_83 := dr1 DX8_walked_82
theorem DX8_walked_84 : cX8_walked.data.toList.drop 84 = TX8_walked_84 := dr1 DX8_walked_83
theorem DX8_walked_85 : cX8_walked.data.toList.drop 85 = TX8_walked_85 := dr1 DX8_walked_84
theorem DX8_walked_86 : cX8_walked.data.toList.drop 86 = TX8_walked_86 := dr1 DX8_walked_85
theorem DX8_walked_87 : cX8_walked.data.toList.drop 87 = TX8_walked_87 := dr1 DX8_walked_86
theorem DX8_walked_88 : cX8_walked.data.toList.drop 88 = TX8_walked_88 := dr1 DX8_walked_87
theorem DX8_walked_89 : cX8_walked.data.toList.drop 89 = TX8_walked_89 := dr1 DX8_walked_88
theorem DX8_walked_90 : cX8_walked.data.toList.drop 90 = TX8_walked_90 := dr1 DX8_walked_89
theorem DX8_walked_91 : cX8_walked.data.toList.drop 91 = TX8_walked_91 := dr1 DX8_walked_90
theorem DX8_walked_92 : cX8_walked.data.toList.drop 92 = TX8_walked_92 := dr1 DX8_walked_91
theorem DX8_walked_93 : cX8_walked.data.toList.drop 93 = TX8_walked_93 := dr1 DX8_walked_92
theorem DX8_walked_94 : cX8_walked.data.toList.drop 94 = TX8_walked_94 := dr1 DX8_walked_93
theorem DX8_walked_95 : cX8_walked.data.toList.drop 95 = TX8_walked_95 := dr1 DX8_walked_94
theorem DX8_walked_96 : cX8_walked.data.toList.drop 96 = TX8_walked_96 := dr1 DX8_walked_95
theorem DX8_walked_97 : cX8_walked.data.toList.drop 97 = TX8_walked_97 := dr1 DX8_walked_96
theorem DX8_walked_98 : cX8_walked.data.toList.drop 98 = TX8_walked_98 := dr1 DX8_walked_97
theorem DX8_walked_100 : cX8_walked.data.toList.drop 100 = TX8_walked_100 := dr2 DX8_walked_98
theorem DX8_walked_101 : cX8_walked.data.toList.drop 101 = TX8_walked_101 := dr1 DX8_walked_100
theorem DX8_walked_102 : cX8_walked.data.toList.drop 102 = TX8_walked_102 := dr1 DX8_walked_101
theorem DX8_walked_103 : cX8_walked.data.toList.drop 103 = TX8_walked_103 := dr1 DX8_walked_102
theorem DX8_walked_104 : cX8_walked.data.toList.drop 104 = TX8_walked_104 := dr1 DX8_walked_103
theorem DX8_walked_105 : cX8_walked.data.toList.drop 105 = TX8_walked_105 := dr1 DX8_walked_104
theorem DX8_walked_106 : cX8_walked.data.toList.drop 106 = TX8_walked_106 := dr1 DX8_walked_105
theorem DX8_walked_107 : cX8_walked.data.toList.drop 107 = TX8_walked_107 := dr1 DX8_walked_106
theorem DX8_walked_108 : cX8_walked.data.toList.drop 108 = TX8_walked_108 := dr1 DX8_walked_107
theorem DX8_walked_109 : cX8_walked.data.toList.drop 109 = TX8_walked_109 := dr1 DX8_walked_108
theorem DX8_walked_110 : cX8_walked.data.toList.drop 110 = TX8_walked_110 := dr1 DX8_walked_109
theorem DX8_walked_111 : cX8_walked.data.toList.drop 111 = TX8_walked_111 := dr1 DX8_walked_110
theorem DX8_walked_112 : cX8_walked.data.toList.drop 112 = TX8_walked_112 := dr1 DX8_walked_111
theorem DX8_walked_113 : cX8_walked.data.toList.drop 113 = TX8_walked_113 := dr1 DX8_walked_112
theorem DX8_walked_114 : cX8_walked.data.toList.drop 114 = TX8_walked_114 := dr1 DX8_walked_113
theorem DX8_walked_115 : cX8_walked.data.toList.drop 115 = TX8_walked_115 := dr1 DX8_walked_114
theorem DX8_walked_116 : cX8_walked.data.toList.drop 116 = TX8_walked_116 := dr1 DX8_walked_115
theorem DX8_walked_117 : cX8_walked.data.toList.drop 117 = TX8_walked_117 := dr1 DX8_walked_116
theorem DX8_walked_118 : cX8_walked.data.toList.drop 118 = TX8_walked_118 := dr1 DX8_walked_117
theorem DX8_walked_119 : cX8_walked.data.toList.drop 119 = TX8_walked_119 := dr1 DX8_walked_118
theorem DX8_walked_120 : cX8_walked.data.toList.drop 120 = TX8_walked_120 := dr1 DX8_walked_119
theorem DX8_walked_121 : cX8_walked.data.toList.drop 121 = TX8_walked_121 := dr1 DX8_walked_120
theorem DX8_walked_123 : cX8_walked.data.toList.drop 123 = TX8_walked_123 := dr2 DX8_walked_121
theorem DX8_walked_124 : cX8_walked.data.toList.drop 124 = TX8_walked_124 := dr1 DX8_walked_123
theorem DX8_walked_126 : cX8_walked.data.toList.drop 126 = TX8_walked_126 := dr2 DX8_walked_124
theorem DX8_walked_128 : cX8_walked.data.toList.drop 128 = TX8_walked_128 := dr2 DX8_walked_126
theorem DX8_walked_129 : cX8_walked.data.toList.drop 129 = TX8_walked_129 := dr1 DX8_walked_128
theorem DX8_walked_132 : cX8_walked.data.toList.drop 132 = TX8_walked_132 := dr3 DX8_walked_129
theorem DX8_walked_134 : cX8_walked.data.toList.drop 134 = TX8_walked_134 := dr2 DX8_walked_132
theorem DX8_walked_136 : cX8_walked.data.toList.drop 136 = TX8_walked_136 := dr2 DX8_walked_134
theorem DX8_walked_137 : cX8_walked.data.toList.drop 137 = TX8_walked_137 := dr1 DX8_walked_136
theorem DX8_walked_138 : cX8_walked.data.toList.drop 138 = TX8_walked_138 := dr1 DX8_walked_137
theorem DX8_walked_139 : cX8_walked.data.toList.drop 139 = TX8_walked_139 := dr1 DX8_walked_138
theorem DX8_walked_140 : cX8_walked.data.toList.drop 140 = TX8_walked_140 := dr1 DX8_walked_139
theorem DX8_walked_141 : cX8_walked.data.toList.drop 141 = TX8_walked_141 := dr1 DX8_walked_140
theorem DX8_walked_142 : cX8_walked.data.toList.drop 142 = TX8_walked_142 := dr1 DX8_walked_141
theorem DX8_walked_143 : cX8_walked.data.toList.drop 143 = TX8_walked_143 := dr1 DX8_walked_142
theorem DX8_walked_144 : cX8_walked.data.toList.drop 144 = TX8_walked_144 := dr1 DX8_walked_143
theorem DX8_walked_145 : cX8_walked.data.toList.drop 145 = TX8_walked_145 := dr1 DX8_walked_144
theorem DX8_walked_147 : cX8_walked.data.toList.drop 147 = TX8_walked_147 := dr2 DX8_walked_145
theorem DX8_walked_148 : cX8_walked.data.toList.drop 148 = TX8_walked_148 := dr1 DX8_walked_147
theorem DX8_walked_150 : cX8_walked.data.toList.drop 150 = TX8_walked_150 := dr2 DX8_walked_148
theorem DX8_walked_151 : cX8_walked.data.toList.drop 151 = TX8_walked_151 := dr1 DX8_walked_150
theorem DX8_walked_152 : cX8_walked.data.toList.drop 152 = TX8_walked_152 := dr1 DX8_walked_151
theorem DX8_walked_153 : cX8_walked.data.toList.drop 153 = TX8_walked_153 := dr1 DX8_walked_152
theorem DX8_walked_155 : cX8_walked.data.toList.drop 155 = TX8_walked_155 := dr2 DX8_walked_153
theorem DX8_walked_156 : cX8_walked.data.toList.drop 156 = TX8_walked_156 := dr1 DX8_walked_155
theorem DX8_walked_158 : cX8_walked.data.toList.drop 158 = TX8_walked_158 := dr2 DX8_walked_156
theorem DX8_walked_159 : cX8_walked.data.toList.drop 159 = TX8_walked_159 := dr1 DX8_walked_158
theorem DX8_walked_161 : cX8_walked.data.toList.drop 161 = TX8_walked_161 := dr2 DX8_walked_159
theorem DX8_walked_163 : cX8_walked.data.toList.drop 163 = TX8_walked_163 := dr2 DX8_walked_161
theorem DX8_walked_164 : cX8_walked.data.toList.drop 164 = TX8_walked_164 := dr1 DX8_walked_163
theorem DX8_walked_167 : cX8_walked.data.toList.drop 167 = TX8_walked_167 := dr3 DX8_walked_164
theorem DX8_walked_169 : cX8_walked.data.toList.drop 169 = TX8_walked_169 := dr2 DX8_walked_167
theorem DX8_walked_171 : cX8_walked.data.toList.drop 171 = TX8_walked_171 := dr2 DX8_walked_169
theorem DX8_walked_172 : cX8_walked.data.toList.drop 172 = TX8_walked_172 := dr1 DX8_walked_171
theorem DX8_walked_174 : cX8_walked.data.toList.drop 174 = TX8_walked_174 := dr2 DX8_walked_172
theorem DX8_walked_175 : cX8_walked.data.toList.drop 175 = TX8_walked_175 := dr1 DX8_walked_174
theorem DX8_walked_177 : cX8_walked.data.toList.drop 177 = TX8_walked_177 := dr2 DX8_walked_175
theorem DX8_walked_178 : cX8_walked.data.toList.drop 178 = TX8_walked_178 := dr1 DX8_walked_177
theorem DX8_walked_180 : cX8_walked.data.toList.drop 180 = TX8_walked_180 := dr2 DX8_walked_178
theorem DX8_walked_182 : cX8_walked.data.toList.drop 182 = TX8_walked_182 := dr2 DX8_walked_180
theorem DX8_walked_183 : cX8_walked.data.toList.drop 183 = TX8_walked_183 := dr1 DX8_walked_182
theorem DX8_walked_186 : cX8_walked.data.toList.drop 186 = TX8_walked_186 := dr3 DX8_walked_183
theorem DX8_walked_188 : cX8_walked.data.toList.drop 188 = TX8_walked_188 := dr2 DX8_walked_186
theorem DX8_walked_190 : cX8_walked.data.toList.drop 190 = TX8_walked_190 := dr2 DX8_walked_188
theorem DX8_walked_191 : cX8_walked.data.toList.drop 191 = TX8_walked_191 := dr1 DX8_walked_190
theorem DX8_walked_193 : cX8_walked.data.toList.drop 193 = TX8_walked_193 := dr2 DX8_walked_191
theorem DX8_walked_195 : cX8_walked.data.toList.drop 195 = TX8_walked_195 := dr2 DX8_walked_193
theorem DX8_walked_196 : cX8_walked.data.toList.drop 196 = TX8_walked_196 := dr1 DX8_walked_195
theorem DX8_walked_197 : cX8_walked.data.toList.drop 197 = TX8_walked_197 := dr1 DX8_walked_196
theorem DX8_walked_198 : cX8_walked.data.toList.drop 198 = TX8_walked_198 := dr1 DX8_walked_197
theorem DX8_walked_200 : cX8_walked.data.toList.drop 200 = TX8_walked_200 := dr2 DX8_walked_198
theorem DX8_walked_201 : cX8_walked.data.toList.drop 201 = TX8_walked_201 := dr1 DX8_walked_200
theorem DX8_walked_202 : cX8_walked.data.toList.drop 202 = TX8_walked_202 := dr1 DX8_walked_201
theorem DX8_walked_203 : cX8_walked.data.toList.drop 203 = TX8_walked_203 := dr1 DX8_walked_202
theorem DX8_walked_205 : cX8_walked.data.toList.drop 205 = TX8_walked_205 := dr2 DX8_walked_203
theorem DX8_walked_207 : cX8_walked.data.toList.drop 207 = TX8_walked_207 := dr2 DX8_walked_205
theorem DX8_walked_208 : cX8_walked.data.toList.drop 208 = TX8_walked_208 := dr1 DX8_walked_207
theorem DX8_walked_209 : cX8_walked.data.toList.drop 209 = TX8_walked_209 := dr1 DX8_walked_208
theorem DX8_walked_210 : cX8_walked.data.toList.drop 210 = TX8_walked_210 := dr1 DX8_walked_209
theorem DX8_walked_211 : cX8_walked.data.toList.drop 211 = TX8_walked_211 := dr1 DX8_walked_210
theorem DX8_walked_213 : cX8_walked.data.toList.drop 213 = TX8_walked_213 := dr2 DX8_walked_211
theorem DX8_walked_215 : cX8_walked.data.toList.drop 215 = TX8_walked_215 := dr2 DX8_walked_213
theorem DX8_walked_217 : cX8_walked.data.toList.drop 217 = TX8_walked_217 := dr2 DX8_walked_215
theorem DX8_walked_219 : cX8_walked.data.toList.drop 219 = TX8_walked_219 := dr2 DX8_walked_217
theorem DX8_walked_222 : cX8_walked.data.toList.drop 222 = TX8_walked_222 := dr3 DX8_walked_219
theorem DX8_walked_223 : cX8_walked.data.toList.drop 223 = TX8_walked_223 := dr1 DX8_walked_222
theorem DX8_walked_224 : cX8_walked.data.toList.drop 224 = TX8_walked_224 := dr1 DX8_walked_223
theorem DX8_walked_225 : cX8_walked.data.toList.drop 225 = TX8_walked_225 := dr1 DX8_walked_224
theorem DX8_walked_227 : cX8_walked.data.toList.drop 227 = TX8_walked_227 := dr2 DX8_walked_225
theorem DX8_walked_229 : cX8_walked.data.toList.drop 229 = TX8_walked_229 := dr2 DX8_walked_227
theorem DX8_walked_230 : cX8_walked.data.toList.drop 230 = TX8_walked_230 := dr1 DX8_walked_229
theorem DX8_walked_232 : cX8_walked.data.toList.drop 232 = TX8_walked_232 := dr2 DX8_walked_230
theorem DX8_walked_235 : cX8_walked.data.toList.drop 235 = TX8_walked_235 := dr3 DX8_walked_232
theorem DX8_walked_238 : cX8_walked.data.toList.drop 238 = TX8_walked_238 := dr3 DX8_walked_235
theorem DX8_walked_240 : cX8_walked.data.toList.drop 240 = TX8_walked_240 := dr2 DX8_walked_238
theorem DX8_walked_242 : cX8_walked.data.toList.drop 242 = TX8_walked_242 := dr2 DX8_walked_240
theorem DX8_walked_244 : cX8_walked.data.toList.drop 244 = TX8_walked_244 := dr2 DX8_walked_242
theorem DX8_walked_246 : cX8_walked.data.toList.drop 246 = TX8_walked_246 := dr2 DX8_walked_244
theorem DX8_walked_247 : cX8_walked.data.toList.drop 247 = TX8_walked_247 := dr1 DX8_walked_246
theorem DX8_walked_248 : cX8_walked.data.toList.drop 248 = TX8_walked_248 := dr1 DX8_walked_247
theorem DX8_walked_249 : cX8_walked.data.toList.drop 249 = TX8_walked_249 := dr1 DX8_walked_248
theorem DX8_walked_250 : cX8_walked.data.toList.drop 250 = TX8_walked_250 := dr1 DX8_walked_249
theorem DX8_walked_252 : cX8_walked.data.toList.drop 252 = TX8_walked_252 := dr2 DX8_walked_250
theorem DX8_walked_254 : cX8_walked.data.toList.drop 254 = TX8_walked_254 := dr2 DX8_walked_252
theorem DX8_walked_255 : cX8_walked.data.toList.drop 255 = TX8_walked_255 := dr1 DX8_walked_254
theorem DX8_walked_256 : cX8_walked.data.toList.drop 256 = TX8_walked_256 := dr1 DX8_walked_255
theorem DX8_walked_258 : cX8_walked.data.toList.drop 258 = TX8_walked_258 := dr2 DX8_walked_256
theorem DX8_walked_259 : cX8_walked.data.toList.drop 259 = TX8_walked_259 := dr1 DX8_walked_258
theorem DX8_walked_262 : cX8_walked.data.toList.drop 262 = TX8_walked_262 := dr3 DX8_walked_259
theorem DX8_walked_265 : cX8_walked.data.toList.drop 265 = TX8_walked_265 := dr3 DX8_walked_262
theorem DX8_walked_268 : cX8_walked.data.toList.drop 268 = TX8_walked_268 := dr3 DX8_walked_265
theorem DX8_walked_271 : cX8_walked.data.toList.drop 271 = TX8_walked_271 := dr3 DX8_walked_268
theorem DX8_walked_272 : cX8_walked.data.toList.drop 272 = TX8_walked_272 := dr1 DX8_walked_271
theorem DX8_walked_275 : cX8_walked.data.toList.drop 275 = TX8_walked_275 := dr3 DX8_walked_272
theorem DX8_walked_276 : cX8_walked.data.toList.drop 276 = TX8_walked_276 := dr1 DX8_walked_275
theorem DX8_walked_277 : cX8_walked.data.toList.drop 277 = TX8_walked_277 := dr1 DX8_walked_276
theorem DX8_walked_278 : cX8_walked.data.toList.drop 278 = TX8_walked_278 := dr1 DX8_walked_277
theorem DX8_walked_280 : cX8_walked.data.toList.drop 280 = TX8_walked_280 := dr2 DX8_walked_278
theorem DX8_walked_281 : cX8_walked.data.toList.drop 281 = TX8_walked_281 := dr1 DX8_walked_280
theorem DX8_walked_282 : cX8_walked.data.toList.drop 282 = TX8_walked_282 := dr1 DX8_walked_281
theorem DX8_walked_285 : cX8_walked.data.toList.drop 285 = TX8_walked_285 := dr3 DX8_walked_282
theorem DX8_walked_286 : cX8_walked.data.toList.drop 286 = TX8_walked_286 := dr1 DX8_walked_285
theorem DX8_walked_287 : cX8_walked.data.toList.drop 287 = TX8_walked_287 := dr1 DX8_walked_286
theorem DX8_walked_288 : cX8_walked.data.toList.drop 288 = TX8_walked_288 := dr1 DX8_walked_287
theorem DX8_walked_289 : cX8_walked.data.toList.drop 289 = TX8_walked_289 := dr1 DX8_walked_288
theorem DX8_walked_291 : cX8_walked.data.toList.drop 291 = TX8_walked_291 := dr2 DX8_walked_289
theorem DX8_walked_292 : cX8_walked.data.toList.drop 292 = TX8_walked_292 := dr1 DX8_walked_291
theorem DX8_walked_293 : cX8_walked.data.toList.drop 293 = TX8_walked_293 := dr1 DX8_walked_292
theorem DX8_walked_296 : cX8_walked.data.toList.drop 296 = TX8_walked_296 := dr3 DX8_walked_293
theorem DX8_walked_297 : cX8_walked.data.toList.drop 297 = TX8_walked_297 := dr1 DX8_walked_296
theorem DX8_walked_298 : cX8_walked.data.toList.drop 298 = TX8_walked_298 := dr1 DX8_walked_297
theorem DX8_walked_299 : cX8_walked.data.toList.drop 299 = TX8_walked_299 := dr1 DX8_walked_298
theorem DX8_walked_300 : cX8_walked.data.toList.drop 300 = TX8_walked_300 := dr1 DX8_walked_299
theorem DX8_walked_302 : cX8_walked.data.toList.drop 302 = TX8_walked_302 := dr2 DX8_walked_300
theorem DX8_walked_303 : cX8_walked.data.toList.drop 303 = TX8_walked_303 := dr1 DX8_walked_302
theorem DX8_walked_304 : cX8_walked.data.toList.drop 304 = TX8_walked_304 := dr1 DX8_walked_303
theorem DX8_walked_307 : cX8_walked.data.toList.drop 307 = TX8_walked_307 := dr3 DX8_walked_304
theorem DX8_walked_308 : cX8_walked.data.toList.drop 308 = TX8_walked_308 := dr1 DX8_walked_307
theorem DX8_walked_309 : cX8_walked.data.toList.drop 309 = TX8_walked_309 := dr1 DX8_walked_308
theorem DX8_walked_310 : cX8_walked.data.toList.drop 310 = TX8_walked_310 := dr1 DX8_walked_309
theorem DX8_walked_311 : cX8_walked.data.toList.drop 311 = TX8_walked_311 := dr1 DX8_walked_310
theorem DX8_walked_313 : cX8_walked.data.toList.drop 313 = TX8_walked_313 := dr2 DX8_walked_311
theorem DX8_walked_314 : cX8_walked.data.toList.drop 314 = TX8_walked_314 := dr1 DX8_walked_313
theorem DX8_walked_315 : cX8_walked.data.toList.drop 315 = TX8_walked_315 := dr1 DX8_walked_314
theorem DX8_walked_318 : cX8_walked.data.toList.drop 318 = TX8_walked_318 := dr3 DX8_walked_315
theorem DX8_walked_319 : cX8_walked.data.toList.drop 319 = TX8_walked_319 := dr1 DX8_walked_318
theorem dX8_walked_0 : decode cX8_walked 0 = .ok (.iload_n 0, 1) := do_1a DX8_walked_0
theorem dX8_walked_1 : decode cX8_walked 1 = .ok (.invokestatic 130, 3) := do_b8 DX8_walked_1
theorem dX8_walked_4 : decode cX8_walked 4 = .ok (.istore_n 2, 1) := do_3d DX8_walked_4
theorem dX8_walked_5 : decode cX8_walked 5 = .ok (.iconst 0, 1) := do_03 DX8_walked_5
theorem dX8_walked_6 : decode cX8_walked 6 = .ok (.istore_n 3, 1) := do_3e DX8_walked_6
theorem dX8_walked_7 : decode cX8_walked 7 = .ok (.iconst 1, 1) := do_04 DX8_walked_7
theorem dX8_walked_8 : decode cX8_walked 8 = .ok (.istore 4, 2) := do_36 DX8_walked_8
theorem dX8_walked_10 : decode cX8_walked 10 = .ok (.iload_n 2, 1) := do_1c DX8_walked_10
theorem dX8_walked_11 : decode cX8_walked 11 = .ok (.istore 5, 2) := do_36 DX8_walked_11
theorem dX8_walked_13 : decode cX8_walked 13 = .ok (.iconst 4, 1) := do_07 DX8_walked_13
theorem dX8_walked_14 : decode cX8_walked 14 = .ok (.anewarray 19, 3) := by decide +kernel
theorem dX8_walked_17 : decode cX8_walked 17 = .ok (.dup, 1) := do_59 DX8_walked_17
theorem dX8_walked_18 : decode cX8_walked 18 = .ok (.iconst 0, 1) := do_03 DX8_walked_18
theorem dX8_walked_19 : decode cX8_walked 19 = .ok (.iconst 5, 1) := do_08 DX8_walked_19
theorem dX8_walked_20 : decode cX8_walked 20 = .ok (.newarray .int, 2) := by decide +kernel
theorem dX8_walked_22 : decode cX8_walked 22 = .ok (.dup, 1) := do_59 DX8_walked_22
theorem dX8_walked_23 : decode cX8_walked 23 = .ok (.iconst 0, 1) := do_03 DX8_walked_23
theorem dX8_walked_24 : decode cX8_walked 24 = .ok (.iconst 1, 1) := do_04 DX8_walked_24
theorem dX8_walked_25 : decode cX8_walked 25 = .ok (.iastore, 1) := do_4f DX8_walked_25
theorem dX8_walked_26 : decode cX8_walked 26 = .ok (.dup, 1) := do_59 DX8_walked_26
theorem dX8_walked_27 : decode cX8_walked 27 = .ok (.iconst 1, 1) := do_04 DX8_walked_27
theorem dX8_walked_28 : decode cX8_walked 28 = .ok (.iconst 1, 1) := do_04 DX8_walked_28
theorem dX8_walked_29 : decode cX8_walked 29 = .ok (.iastore, 1) := do_4f DX8_walked_29
theorem dX8_walked_30 : decode cX8_walked 30 = .ok (.dup, 1) := do_59 DX8_walked_30
theorem dX8_walked_31 : decode cX8_walked 31 = .ok (.iconst 2, 1) := do_05 DX8_walked_31
theorem dX8_walked_32 : decode cX8_walked 32 = .ok (.iconst 0, 1) := do_03 DX8_walked_32
theorem dX8_walked_33 : decode cX8_walked 33 = .ok (.iastore, 1) := do_4f DX8_walked_33
theorem dX8_walked_34 : decode cX8_walked 34 = .ok (.dup, 1) := do_59 DX8_walked_34
theorem dX8_walked_35 : decode cX8_walked 35 = .ok (.iconst 3, 1) := do_06 DX8_walked_35
theorem dX8_walked_36 : decode cX8_walked 36 = .ok (.iconst 0, 1) := do_03 DX8_walked_36
theorem dX8_walked_37 : decode cX8_walked 37 = .ok (.iastore, 1) := do_4f DX8_walked_37
theorem dX8_walked_38 : decode cX8_walked 38 = .ok (.dup, 1) := do_59 DX8_walked_38
theorem dX8_walked_39 : decode cX8_walked 39 = .ok (.iconst 4, 1) := do_07 DX8_walked_39
theorem dX8_walked_40 : decode cX8_walked 40 = .ok (.iconst 0, 1) := do_03 DX8_walked_40
theorem dX8_walked_41 : decode cX8_walked 41 = .ok (.iastore, 1) := do_4f DX8_walked_41
theorem dX8_walked_42 : decode cX8_walked 42 = .ok (.aastore, 1) := do_53 DX8_walked_42
theorem dX8_walked_43 : decode cX8_walked 43 = .ok (.dup, 1) := do_59 DX8_walked_43
theorem dX8_walked_44 : decode cX8_walked 44 = .ok (.iconst 1, 1) := do_04 DX8_walked_44
theorem dX8_walked_45 : decode cX8_walked 45 = .ok (.iconst 5, 1) := do_08 DX8_walked_45
theorem dX8_walked_46 : decode cX8_walked 46 = .ok (.newarray .int, 2) := by decide +kernel
theorem dX8_walked_48 : decode cX8_walked 48 = .ok (.dup, 1) := do_59 DX8_walked_48
theorem dX8_walked_49 : decode cX8_walked 49 = .ok (.iconst 0, 1) := do_03 DX8_walked_49
theorem dX8_walked_50 : decode cX8_walked 50 = .ok (.iconst 1, 1) := do_04 DX8_walked_50
theorem dX8_walked_51 : decode cX8_walked 51 = .ok (.iastore, 1) := do_4f DX8_walked_51
theorem dX8_walked_52 : decode cX8_walked 52 = .ok (.dup, 1) := do_59 DX8_walked_52
theorem dX8_walked_53 : decode cX8_walked 53 = .ok (.iconst 1, 1) := do_04 DX8_walked_53
theorem dX8_walked_54 : decode cX8_walked 54 = .ok (.iload_n 2, 1) := do_1c DX8_walked_54
theorem dX8_walked_55 : decode cX8_walked 55 = .ok (.iastore, 1) := do_4f DX8_walked_55
theorem dX8_walked_56 : decode cX8_walked 56 = .ok (.dup, 1) := do_59 DX8_walked_56
theorem dX8_walked_57 : decode cX8_walked 57 = .ok (.iconst 2, 1) := do_05 DX8_walked_57
theorem dX8_walked_58 : decode cX8_walked 58 = .ok (.iconst 0, 1) := do_03 DX8_walked_58
theorem dX8_walked_59 : decode cX8_walked 59 = .ok (.iastore, 1) := do_4f DX8_walked_59
theorem dX8_walked_60 : decode cX8_walked 60 = .ok (.dup, 1) := do_59 DX8_walked_60
theorem dX8_walked_61 : decode cX8_walked 61 = .ok (.iconst 3, 1) := do_06 DX8_walked_61
theorem dX8_walked_62 : decode cX8_walked 62 = .ok (.iconst 0, 1) := do_03 DX8_walked_62
theorem dX8_walked_63 : decode cX8_walked 63 = .ok (.iastore, 1) := do_4f DX8_walked_63
theorem dX8_walked_64 : decode cX8_walked 64 = .ok (.dup, 1) := do_59 DX8_walked_64
theorem dX8_walked_65 : decode cX8_walked 65 = .ok (.iconst 4, 1) := do_07 DX8_walked_65
theorem dX8_walked_66 : decode cX8_walked 66 = .ok (.iconst 0, 1) := do_03 DX8_walked_66
theorem dX8_walked_67 : decode cX8_walked 67 = .ok (.iastore, 1) := do_4f DX8_walked_67
theorem dX8_walked_68 : decode cX8_walked 68 = .ok (.aastore, 1) := do_53 DX8_walked_68
theorem dX8_walked_69 : decode cX8_walked 69 = .ok (.dup, 1) := do_59 DX8_walked_69
theorem dX8_walked_70 : decode cX8_walked 70 = .ok (.iconst 2, 1) := do_05 DX8_walked_70
theorem dX8_walked_71 : decode cX8_walked 71 = .ok (.iconst 5, 1) := do_08 DX8_walked_71
theorem dX8_walked_72 : decode cX8_walked 72 = .ok (.newarray .int, 2) := by decide +kernel
theorem dX8_walked_74 : decode cX8_walked 74 = .ok (.dup, 1) := do_59 DX8_walked_74
theorem dX8_walked_75 : decode cX8_walked 75 = .ok (.iconst 0, 1) := do_03 DX8_walked_75
theorem dX8_walked_76 : decode cX8_walked 76 = .ok (.iconst 1, 1) := do_04 DX8_walked_76
theorem dX8_walked_77 : decode cX8_walked 77 = .ok (.iastore, 1) := do_4f DX8_walked_77
theorem dX8_walked_78 : decode cX8_walked 78 = .ok (.dup, 1) := do_59 DX8_walked_78
theorem dX8_walked_79 : decode cX8_walked 79 = .ok (.iconst 1, 1) := do_04 DX8_walked_79
theorem dX8_walked_80 : decode cX8_walked 80 = .ok (.iconst 0, 1) := do_03 DX8_walked_80
theorem dX8_walked_81 : decode cX8_walked 81 = .ok (.iastore, 1) := do_4f DX8_walked_81
theorem dX8_walked_82 : decode cX8_walked 82 = .ok (.dup, 1) := do_59 DX8_walked_82
theorem dX8_walked_83 : decode cX8_walked 83 = .ok (.iconst 2, 1) := do_05 DX8_walked_83
theorem dX8_walked_84 : decode cX8_walked 84 = .ok (.iconst 0, 1) := do_03 DX8_walked_84
theorem dX8_walked_85 : decode cX8_walked 85 = .ok (.iastore, 1) := do_4f DX8_walked_85
theorem dX8_walked_86 : decode cX8_walked 86 = .ok (.dup, 1) := do_59 DX8_walked_86
theorem dX8_walked_87 : decode cX8_walked 87 = .ok (.iconst 3, 1) := do_06 DX8_walked_87
theorem dX8_walked_88 : decode cX8_walked 88 = .ok (.iconst 0, 1) := do_03 DX8_walked_88
theorem dX8_walked_89 : decode cX8_walked 89 = .ok (.iastore, 1) := do_4f DX8_walked_89
theorem dX8_walked_90 : decode cX8_walked 90 = .ok (.dup, 1) := do_59 DX8_walked_90
theorem dX8_walked_91 : decode cX8_walked 91 = .ok (.iconst 4, 1) := do_07 DX8_walked_91
theorem dX8_walked_92 : decode cX8_walked 92 = .ok (.iconst 0, 1) := do_03 DX8_walked_92
theorem dX8_walked_93 : decode cX8_walked 93 = .ok (.iastore, 1) := do_4f DX8_walked_93
theorem dX8_walked_94 : decode cX8_walked 94 = .ok (.aastore, 1) := do_53 DX8_walked_94
theorem dX8_walked_95 : decode cX8_walked 95 = .ok (.dup, 1) := do_59 DX8_walked_95
theorem dX8_walked_96 : decode cX8_walked 96 = .ok (.iconst 3, 1) := do_06 DX8_walked_96
theorem dX8_walked_97 : decode cX8_walked 97 = .ok (.iconst 5, 1) := do_08 DX8_walked_97
theorem dX8_walked_98 : decode cX8_walked 98 = .ok (.newarray .int, 2) := by decide +kernel
theorem dX8_walked_100 : decode cX8_walked 100 = .ok (.dup, 1) := do_59 DX8_walked_100
theorem dX8_walked_101 : decode cX8_walked 101 = .ok (.iconst 0, 1) := do_03 DX8_walked_101
theorem dX8_walked_102 : decode cX8_walked 102 = .ok (.iconst 1, 1) := do_04 DX8_walked_102
theorem dX8_walked_103 : decode cX8_walked 103 = .ok (.iastore, 1) := do_4f DX8_walked_103
theorem dX8_walked_104 : decode cX8_walked 104 = .ok (.dup, 1) := do_59 DX8_walked_104
theorem dX8_walked_105 : decode cX8_walked 105 = .ok (.iconst 1, 1) := do_04 DX8_walked_105
theorem dX8_walked_106 : decode cX8_walked 106 = .ok (.iconst 1, 1) := do_04 DX8_walked_106
theorem dX8_walked_107 : decode cX8_walked 107 = .ok (.iastore, 1) := do_4f DX8_walked_107
theorem dX8_walked_108 : decode cX8_walked 108 = .ok (.dup, 1) := do_59 DX8_walked_108
theorem dX8_walked_109 : decode cX8_walked 109 = .ok (.iconst 2, 1) := do_05 DX8_walked_109
theorem dX8_walked_110 : decode cX8_walked 110 = .ok (.iconst 0, 1) := do_03 DX8_walked_110
theorem dX8_walked_111 : decode cX8_walked 111 = .ok (.iastore, 1) := do_4f DX8_walked_111
theorem dX8_walked_112 : decode cX8_walked 112 = .ok (.dup, 1) := do_59 DX8_walked_112
theorem dX8_walked_113 : decode cX8_walked 113 = .ok (.iconst 3, 1) := do_06 DX8_walked_113
theorem dX8_walked_114 : decode cX8_walked 114 = .ok (.iconst 0, 1) := do_03 DX8_walked_114
theorem dX8_walked_115 : decode cX8_walked 115 = .ok (.iastore, 1) := do_4f DX8_walked_115
theorem dX8_walked_116 : decode cX8_walked 116 = .ok (.dup, 1) := do_59 DX8_walked_116
theorem dX8_walked_117 : decode cX8_walked 117 = .ok (.iconst 4, 1) := do_07 DX8_walked_117
theorem dX8_walked_118 : decode cX8_walked 118 = .ok (.iconst 0, 1) := do_03 DX8_walked_118
theorem dX8_walked_119 : decode cX8_walked 119 = .ok (.iastore, 1) := do_4f DX8_walked_119
theorem dX8_walked_120 : decode cX8_walked 120 = .ok (.aastore, 1) := do_53 DX8_walked_120
theorem dX8_walked_121 : decode cX8_walked 121 = .ok (.astore 6, 2) := do_3a DX8_walked_121
theorem dX8_walked_123 : decode cX8_walked 123 = .ok (.iconst 0, 1) := do_03 DX8_walked_123
theorem dX8_walked_124 : decode cX8_walked 124 = .ok (.istore 7, 2) := do_36 DX8_walked_124
theorem dX8_walked_126 : decode cX8_walked 126 = .ok (.iload 7, 2) := do_15 DX8_walked_126
theorem dX8_walked_128 : decode cX8_walked 128 = .ok (.iload_n 1, 1) := do_1b DX8_walked_128
theorem dX8_walked_129 : decode cX8_walked 129 = .ok (.if_icmp .ge 142, 3) := do_a2 DX8_walked_129 (by decide +kernel)
theorem dX8_walked_132 : decode cX8_walked 132 = .ok (.iload 4, 2) := do_15 DX8_walked_132
theorem dX8_walked_134 : decode cX8_walked 134 = .ok (.iload 5, 2) := do_15 DX8_walked_134
theorem dX8_walked_136 : decode cX8_walked 136 = .ok (.imul, 1) := do_68 DX8_walked_136
theorem dX8_walked_137 : decode cX8_walked 137 = .ok (.iload_n 3, 1) := do_1d DX8_walked_137
theorem dX8_walked_138 : decode cX8_walked 138 = .ok (.isub, 1) := do_64 DX8_walked_138
theorem dX8_walked_139 : decode cX8_walked 139 = .ok (.istore_n 3, 1) := do_3e DX8_walked_139
theorem dX8_walked_140 : decode cX8_walked 140 = .ok (.iload_n 0, 1) := do_1a DX8_walked_140
theorem dX8_walked_141 : decode cX8_walked 141 = .ok (.iload_n 3, 1) := do_1d DX8_walked_141
theorem dX8_walked_142 : decode cX8_walked 142 = .ok (.iload_n 3, 1) := do_1d DX8_walked_142
theorem dX8_walked_143 : decode cX8_walked 143 = .ok (.imul, 1) := do_68 DX8_walked_143
theorem dX8_walked_144 : decode cX8_walked 144 = .ok (.isub, 1) := do_64 DX8_walked_144
theorem dX8_walked_145 : decode cX8_walked 145 = .ok (.iload 4, 2) := do_15 DX8_walked_145
theorem dX8_walked_147 : decode cX8_walked 147 = .ok (.idiv, 1) := do_6c DX8_walked_147
theorem dX8_walked_148 : decode cX8_walked 148 = .ok (.istore 4, 2) := do_36 DX8_walked_148
theorem dX8_walked_150 : decode cX8_walked 150 = .ok (.iload_n 2, 1) := do_1c DX8_walked_150
theorem dX8_walked_151 : decode cX8_walked 151 = .ok (.iload_n 3, 1) := do_1d DX8_walked_151
theorem dX8_walked_152 : decode cX8_walked 152 = .ok (.iadd, 1) := do_60 DX8_walked_152
theorem dX8_walked_153 : decode cX8_walked 153 = .ok (.iload 4, 2) := do_15 DX8_walked_153
theorem dX8_walked_155 : decode cX8_walked 155 = .ok (.idiv, 1) := do_6c DX8_walked_155
theorem dX8_walked_156 : decode cX8_walked 156 = .ok (.istore 5, 2) := do_36 DX8_walked_156
theorem dX8_walked_158 : decode cX8_walked 158 = .ok (.iconst 0, 1) := do_03 DX8_walked_158
theorem dX8_walked_159 : decode cX8_walked 159 = .ok (.istore 8, 2) := do_36 DX8_walked_159
theorem dX8_walked_161 : decode cX8_walked 161 = .ok (.iload 8, 2) := do_15 DX8_walked_161
theorem dX8_walked_163 : decode cX8_walked 163 = .ok (.iconst 4, 1) := do_07 DX8_walked_163
theorem dX8_walked_164 : decode cX8_walked 164 = .ok (.if_icmp .ge 101, 3) := do_a2 DX8_walked_164 (by decide +kernel)
theorem dX8_walked_167 : decode cX8_walked 167 = .ok (.aload 6, 2) := do_19 DX8_walked_167
theorem dX8_walked_169 : decode cX8_walked 169 = .ok (.iload 8, 2) := do_15 DX8_walked_169
theorem dX8_walked_171 : decode cX8_walked 171 = .ok (.aaload, 1) := do_32 DX8_walked_171
theorem dX8_walked_172 : decode cX8_walked 172 = .ok (.astore 9, 2) := do_3a DX8_walked_172
theorem dX8_walked_174 : decode cX8_walked 174 = .ok (.lconst 0, 1) := do_09 DX8_walked_174
theorem dX8_walked_175 : decode cX8_walked 175 = .ok (.lstore 10, 2) := do_37 DX8_walked_175
theorem dX8_walked_177 : decode cX8_walked 177 = .ok (.iconst 1, 1) := do_04 DX8_walked_177
theorem dX8_walked_178 : decode cX8_walked 178 = .ok (.istore 12, 2) := do_36 DX8_walked_178
theorem dX8_walked_180 : decode cX8_walked 180 = .ok (.iload 12, 2) := do_15 DX8_walked_180
theorem dX8_walked_182 : decode cX8_walked 182 = .ok (.iconst 5, 1) := do_08 DX8_walked_182
theorem dX8_walked_183 : decode cX8_walked 183 = .ok (.if_icmp .ge 55, 3) := do_a2 DX8_walked_183 (by decide +kernel)
theorem dX8_walked_186 : decode cX8_walked 186 = .ok (.lload 10, 2) := do_16 DX8_walked_186
theorem dX8_walked_188 : decode cX8_walked 188 = .ok (.iload 5, 2) := do_15 DX8_walked_188
theorem dX8_walked_190 : decode cX8_walked 190 = .ok (.i2l, 1) := do_85 DX8_walked_190
theorem dX8_walked_191 : decode cX8_walked 191 = .ok (.aload 6, 2) := do_19 DX8_walked_191
theorem dX8_walked_193 : decode cX8_walked 193 = .ok (.iload 8, 2) := do_15 DX8_walked_193
theorem dX8_walked_195 : decode cX8_walked 195 = .ok (.iconst 1, 1) := do_04 DX8_walked_195
theorem dX8_walked_196 : decode cX8_walked 196 = .ok (.iadd, 1) := do_60 DX8_walked_196
theorem dX8_walked_197 : decode cX8_walked 197 = .ok (.aaload, 1) := do_32 DX8_walked_197
theorem dX8_walked_198 : decode cX8_walked 198 = .ok (.iload 12, 2) := do_15 DX8_walked_198
theorem dX8_walked_200 : decode cX8_walked 200 = .ok (.iaload, 1) := do_2e DX8_walked_200
theorem dX8_walked_201 : decode cX8_walked 201 = .ok (.i2l, 1) := do_85 DX8_walked_201
theorem dX8_walked_202 : decode cX8_walked 202 = .ok (.lmul, 1) := do_69 DX8_walked_202
theorem dX8_walked_203 : decode cX8_walked 203 = .ok (.aload 9, 2) := do_19 DX8_walked_203
theorem dX8_walked_205 : decode cX8_walked 205 = .ok (.iload 12, 2) := do_15 DX8_walked_205
theorem dX8_walked_207 : decode cX8_walked 207 = .ok (.iaload, 1) := do_2e DX8_walked_207
theorem dX8_walked_208 : decode cX8_walked 208 = .ok (.i2l, 1) := do_85 DX8_walked_208
theorem dX8_walked_209 : decode cX8_walked 209 = .ok (.ladd, 1) := do_61 DX8_walked_209
theorem dX8_walked_210 : decode cX8_walked 210 = .ok (.ladd, 1) := do_61 DX8_walked_210
theorem dX8_walked_211 : decode cX8_walked 211 = .ok (.lstore 10, 2) := do_37 DX8_walked_211
theorem dX8_walked_213 : decode cX8_walked 213 = .ok (.aload 9, 2) := do_19 DX8_walked_213
theorem dX8_walked_215 : decode cX8_walked 215 = .ok (.iload 12, 2) := do_15 DX8_walked_215
theorem dX8_walked_217 : decode cX8_walked 217 = .ok (.lload 10, 2) := do_16 DX8_walked_217
theorem dX8_walked_219 : decode cX8_walked 219 = .ok (.ldc2_w 53, 3) := by decide +kernel
theorem dX8_walked_222 : decode cX8_walked 222 = .ok (.land, 1) := do_7f DX8_walked_222
theorem dX8_walked_223 : decode cX8_walked 223 = .ok (.l2i, 1) := do_88 DX8_walked_223
theorem dX8_walked_224 : decode cX8_walked 224 = .ok (.iastore, 1) := do_4f DX8_walked_224
theorem dX8_walked_225 : decode cX8_walked 225 = .ok (.lload 10, 2) := do_16 DX8_walked_225
theorem dX8_walked_227 : decode cX8_walked 227 = .ok (.bipush 30, 2) := do_10 DX8_walked_227 (by decide +kernel)
theorem dX8_walked_229 : decode cX8_walked 229 = .ok (.lshr, 1) := do_7b DX8_walked_229
theorem dX8_walked_230 : decode cX8_walked 230 = .ok (.lstore 10, 2) := do_37 DX8_walked_230
theorem dX8_walked_232 : decode cX8_walked 232 = .ok (.iinc 12 1, 3) := do_84 DX8_walked_232
theorem dX8_walked_235 : decode cX8_walked 235 = .ok (.goto (-55), 3) := do_a7 DX8_walked_235 (by decide +kernel)
theorem dX8_walked_238 : decode cX8_walked 238 = .ok (.aload 6, 2) := do_19 DX8_walked_238
theorem dX8_walked_240 : decode cX8_walked 240 = .ok (.iload 8, 2) := do_15 DX8_walked_240
theorem dX8_walked_242 : decode cX8_walked 242 = .ok (.aload 6, 2) := do_19 DX8_walked_242
theorem dX8_walked_244 : decode cX8_walked 244 = .ok (.iload 8, 2) := do_15 DX8_walked_244
theorem dX8_walked_246 : decode cX8_walked 246 = .ok (.iconst 1, 1) := do_04 DX8_walked_246
theorem dX8_walked_247 : decode cX8_walked 247 = .ok (.iadd, 1) := do_60 DX8_walked_247
theorem dX8_walked_248 : decode cX8_walked 248 = .ok (.aaload, 1) := do_32 DX8_walked_248
theorem dX8_walked_249 : decode cX8_walked 249 = .ok (.aastore, 1) := do_53 DX8_walked_249
theorem dX8_walked_250 : decode cX8_walked 250 = .ok (.aload 6, 2) := do_19 DX8_walked_250
theorem dX8_walked_252 : decode cX8_walked 252 = .ok (.iload 8, 2) := do_15 DX8_walked_252
theorem dX8_walked_254 : decode cX8_walked 254 = .ok (.iconst 1, 1) := do_04 DX8_walked_254
theorem dX8_walked_255 : decode cX8_walked 255 = .ok (.iadd, 1) := do_60 DX8_walked_255
theorem dX8_walked_256 : decode cX8_walked 256 = .ok (.aload 9, 2) := do_19 DX8_walked_256
theorem dX8_walked_258 : decode cX8_walked 258 = .ok (.aastore, 1) := do_53 DX8_walked_258
theorem dX8_walked_259 : decode cX8_walked 259 = .ok (.iinc 8 2, 3) := do_84 DX8_walked_259
theorem dX8_walked_262 : decode cX8_walked 262 = .ok (.goto (-101), 3) := do_a7 DX8_walked_262 (by decide +kernel)
theorem dX8_walked_265 : decode cX8_walked 265 = .ok (.iinc 7 1, 3) := do_84 DX8_walked_265
theorem dX8_walked_268 : decode cX8_walked 268 = .ok (.goto (-142), 3) := do_a7 DX8_walked_268 (by decide +kernel)
theorem dX8_walked_271 : decode cX8_walked 271 = .ok (.iconst 4, 1) := do_07 DX8_walked_271
theorem dX8_walked_272 : decode cX8_walked 272 = .ok (.anewarray 19, 3) := by decide +kernel
theorem dX8_walked_275 : decode cX8_walked 275 = .ok (.dup, 1) := do_59 DX8_walked_275
theorem dX8_walked_276 : decode cX8_walked 276 = .ok (.iconst 0, 1) := do_03 DX8_walked_276
theorem dX8_walked_277 : decode cX8_walked 277 = .ok (.iconst 1, 1) := do_04 DX8_walked_277
theorem dX8_walked_278 : decode cX8_walked 278 = .ok (.aload 6, 2) := do_19 DX8_walked_278
theorem dX8_walked_280 : decode cX8_walked 280 = .ok (.iconst 1, 1) := do_04 DX8_walked_280
theorem dX8_walked_281 : decode cX8_walked 281 = .ok (.aaload, 1) := do_32 DX8_walked_281
theorem dX8_walked_282 : decode cX8_walked 282 = .ok (.invokestatic 55, 3) := do_b8 DX8_walked_282
theorem dX8_walked_285 : decode cX8_walked 285 = .ok (.aastore, 1) := do_53 DX8_walked_285
theorem dX8_walked_286 : decode cX8_walked 286 = .ok (.dup, 1) := do_59 DX8_walked_286
theorem dX8_walked_287 : decode cX8_walked 287 = .ok (.iconst 1, 1) := do_04 DX8_walked_287
theorem dX8_walked_288 : decode cX8_walked 288 = .ok (.iconst 1, 1) := do_04 DX8_walked_288
theorem dX8_walked_289 : decode cX8_walked 289 = .ok (.aload 6, 2) := do_19 DX8_walked_289
theorem dX8_walked_291 : decode cX8_walked 291 = .ok (.iconst 3, 1) := do_06 DX8_walked_291
theorem dX8_walked_292 : decode cX8_walked 292 = .ok (.aaload, 1) := do_32 DX8_walked_292
theorem dX8_walked_293 : decode cX8_walked 293 = .ok (.invokestatic 55, 3) := do_b8 DX8_walked_293
theorem dX8_walked_296 : decode cX8_walked 296 = .ok (.aastore, 1) := do_53 DX8_walked_296
theorem dX8_walked_297 : decode cX8_walked 297 = .ok (.dup, 1) := do_59 DX8_walked_297
theorem dX8_walked_298 : decode cX8_walked 298 = .ok (.iconst 2, 1) := do_05 DX8_walked_298
theorem dX8_walked_299 : decode cX8_walked 299 = .ok (.iconst 1, 1) := do_04 DX8_walked_299
theorem dX8_walked_300 : decode cX8_walked 300 = .ok (.aload 6, 2) := do_19 DX8_walked_300
theorem dX8_walked_302 : decode cX8_walked 302 = .ok (.iconst 0, 1) := do_03 DX8_walked_302
theorem dX8_walked_303 : decode cX8_walked 303 = .ok (.aaload, 1) := do_32 DX8_walked_303
theorem dX8_walked_304 : decode cX8_walked 304 = .ok (.invokestatic 55, 3) := do_b8 DX8_walked_304
theorem dX8_walked_307 : decode cX8_walked 307 = .ok (.aastore, 1) := do_53 DX8_walked_307
theorem dX8_walked_308 : decode cX8_walked 308 = .ok (.dup, 1) := do_59 DX8_walked_308
theorem dX8_walked_309 : decode cX8_walked 309 = .ok (.iconst 3, 1) := do_06 DX8_walked_309
theorem dX8_walked_310 : decode cX8_walked 310 = .ok (.iconst 1, 1) := do_04 DX8_walked_310
theorem dX8_walked_311 : decode cX8_walked 311 = .ok (.aload 6, 2) := do_19 DX8_walked_311
theorem dX8_walked_313 : decode cX8_walked 313 = .ok (.iconst 2, 1) := do_05 DX8_walked_313
theorem dX8_walked_314 : decode cX8_walked 314 = .ok (.aaload, 1) := do_32 DX8_walked_314
theorem dX8_walked_315 : decode cX8_walked 315 = .ok (.invokestatic 55, 3) := do_b8 DX8_walked_315
theorem dX8_walked_318 : decode cX8_walked 318 = .ok (.aastore, 1) := do_53 DX8_walked_318
theorem dX8_walked_319 : decode cX8_walked 319 = .ok (.areturn, 1) := do_b0 DX8_walked_319
def TX8_at_16 : List UInt8 := []
def TX8_at_15 : List UInt8 := 176 :: TX8_at_16
def TX8_at_12 : List UInt8 := 184 :: 0 :: 134 :: TX8_at_15
def TX8_at_11 : List UInt8 := 46 :: TX8_at_12
def TX8_at_10 : List UInt8 := 27 :: TX8_at_11
def TX8_at_7 : List UInt8 := 180 :: 0 :: 13 :: TX8_at_10
def TX8_at_6 : List UInt8 := 42 :: TX8_at_7
def TX8_at_5 : List UInt8 := 46 :: TX8_at_6
def TX8_at_4 : List UInt8 := 27 :: TX8_at_5
def TX8_at_1 : List UInt8 := 180 :: 0 :: 9 :: TX8_at_4
def TX8_at_0 : List UInt8 := 42 :: TX8_at_1
theorem DX8_at_0 : cX8_at.data.toList.drop 0 = TX8_at_0 := by decide +kernel
theorem DX8_at_1 : cX8_at.data.toList.drop 1 = TX8_at_1 := dr1 DX8_at_0
theorem DX8_at_4 : cX8_at.data.toList.drop 4 = TX8_at_4 := dr3 DX8_at_1
theorem DX8_at_5 : cX8_at.data.toList.drop 5 = TX8_at_5 := dr1 DX8_at_4
theorem DX8_at_6 : cX8_at.data.toList.drop 6 = TX8_at_6 := dr1 DX8_at_5
theorem DX8_at_7 : cX8_at.data.toList.drop 7 = TX8_at_7 := dr1 DX8_at_6
theorem DX8_at_10 : cX8_at.data.toList.drop 10 = TX8_at_10 := dr3 DX8_at_7
theorem DX8_at_11 : cX8_at.data.toList.drop 11 = TX8_at_11 := dr1 DX8_at_10
theorem DX8_at_12 : cX8_at.data.toList.drop 12 = TX8_at_12 := dr1 DX8_at_11
theorem DX8_at_15 : cX8_at.data.toList.drop 15 = TX8_at_15 := dr3 DX8_at_12
theorem dX8_at_0 : decode cX8_at 0 = .ok (.aload_n 0, 1) := do_2a DX8_at_0
theorem dX8_at_1 : decode cX8_at 1 = .ok (.getfield 9, 3) := do_b4 DX8_at_1
theorem dX8_at_4 : decode cX8_at 4 = .ok (.iload_n 1, 1) := do_1b DX8_at_4
theorem dX8_at_5 : decode cX8_at 5 = .ok (.iaload, 1) := do_2e DX8_at_5
theorem dX8_at_6 : decode cX8_at 6 = .ok (.aload_n 0, 1) := do_2a DX8_at_6
theorem dX8_at_7 : decode cX8_at 7 = .ok (.getfield 13, 3) := do_b4 DX8_at_7
theorem dX8_at_10 : decode cX8_at 10 = .ok (.iload_n 1, 1) := do_1b DX8_at_10
theorem dX8_at_11 : decode cX8_at 11 = .ok (.iaload, 1) := do_2e DX8_at_11
theorem dX8_at_12 : decode cX8_at 12 = .ok (.invokestatic 134, 3) := do_b8 DX8_at_12
theorem dX8_at_15 : decode cX8_at 15 = .ok (.areturn, 1) := do_b0 DX8_at_15
def TX8_periodOf_21 : List UInt8 := []
def TX8_periodOf_20 : List UInt8 := 172 :: TX8_periodOf_21
def TX8_periodOf_19 : List UInt8 := 27 :: TX8_periodOf_20
def TX8_periodOf_16 : List UInt8 := 167 :: 255 :: 242 :: TX8_periodOf_19
def TX8_periodOf_13 : List UInt8 := 132 :: 1 :: 1 :: TX8_periodOf_16
def TX8_periodOf_10 : List UInt8 := 159 :: 0 :: 9 :: TX8_periodOf_13
def TX8_periodOf_9 : List UInt8 := 4 :: TX8_periodOf_10
def TX8_periodOf_8 : List UInt8 := 46 :: TX8_periodOf_9
def TX8_periodOf_7 : List UInt8 := 4 :: TX8_periodOf_8
def TX8_periodOf_4 : List UInt8 := 184 :: 0 :: 138 :: TX8_periodOf_7
def TX8_periodOf_3 : List UInt8 := 27 :: TX8_periodOf_4
def TX8_periodOf_2 : List UInt8 := 26 :: TX8_periodOf_3
def TX8_periodOf_1 : List UInt8 := 60 :: TX8_periodOf_2
def TX8_periodOf_0 : List UInt8 := 4 :: TX8_periodOf_1
theorem DX8_periodOf_0 : cX8_periodOf.data.toList.drop 0 = TX8_periodOf_0 := by decide +kernel
theorem DX8_periodOf_1 : cX8_periodOf.data.toList.drop 1 = TX8_periodOf_1 := dr1 DX8_periodOf_0
theorem DX8_periodOf_2 : cX8_periodOf.data.toList.drop 2 = TX8_periodOf_2 := dr1 DX8_periodOf_1
theorem DX8_periodOf_3 : cX8_periodOf.data.toList.drop 3 = TX8_periodOf_3 := dr1 DX8_periodOf_2
theorem DX8_periodOf_4 : cX8_periodOf.data.toList.drop 4 = TX8_periodOf_4 := dr1 DX8_periodOf_3
theorem DX8_periodOf_7 : cX8_periodOf.data.toList.drop 7 = TX8_periodOf_7 := dr3 DX8_periodOf_4
theorem DX8_periodOf_8 : cX8_periodOf.data.toList.drop 8 = TX8_periodOf_8 := dr1 DX8_periodOf_7
theorem DX8_periodOf_9 : cX8_periodOf.data.toList.drop 9 = TX8_periodOf_9 := dr1 DX8_periodOf_8
theorem DX8_periodOf_10 : cX8_periodOf.data.toList.drop 10 = TX8_periodOf_10 := dr1 DX8_periodOf_9
theorem DX8_periodOf_13 : cX8_periodOf.data.toList.drop 13 = TX8_periodOf_13 := dr3 DX8_periodOf_10
theorem DX8_periodOf_16 : cX8_periodOf.data.toList.drop 16 = TX8_periodOf_16 := dr3 DX8_periodOf_13
theorem DX8_periodOf_19 : cX8_periodOf.data.toList.drop 19 = TX8_periodOf_19 := dr3 DX8_periodOf_16
theorem DX8_periodOf_20 : cX8_periodOf.data.toList.drop 20 = TX8_periodOf_20 := dr1 DX8_periodOf_19
theorem dX8_periodOf_0 : decode cX8_periodOf 0 = .ok (.iconst 1, 1) := do_04 DX8_periodOf_0
theorem dX8_periodOf_1 : decode cX8_periodOf 1 = .ok (.istore_n 1, 1) := do_3c DX8_periodOf_1
theorem dX8_periodOf_2 : decode cX8_periodOf 2 = .ok (.iload_n 0, 1) := do_1a DX8_periodOf_2
theorem dX8_periodOf_3 : decode cX8_periodOf 3 = .ok (.iload_n 1, 1) := do_1b DX8_periodOf_3
theorem dX8_periodOf_4 : decode cX8_periodOf 4 = .ok (.invokestatic 138, 3) := do_b8 DX8_periodOf_4
theorem dX8_periodOf_7 : decode cX8_periodOf 7 = .ok (.iconst 1, 1) := do_04 DX8_periodOf_7
theorem dX8_periodOf_8 : decode cX8_periodOf 8 = .ok (.iaload, 1) := do_2e DX8_periodOf_8
theorem dX8_periodOf_9 : decode cX8_periodOf 9 = .ok (.iconst 1, 1) := do_04 DX8_periodOf_9
theorem dX8_periodOf_10 : decode cX8_periodOf 10 = .ok (.if_icmp .eq 9, 3) := do_9f DX8_periodOf_10 (by decide +kernel)
theorem dX8_periodOf_13 : decode cX8_periodOf 13 = .ok (.iinc 1 1, 3) := do_84 DX8_periodOf_13
theorem dX8_periodOf_16 : decode cX8_periodOf 16 = .ok (.goto (-14), 3) := do_a7 DX8_periodOf_16 (by decide +kernel)
theorem dX8_periodOf_19 : decode cX8_periodOf 19 = .ok (.iload_n 1, 1) := do_1b DX8_periodOf_19
theorem dX8_periodOf_20 : decode cX8_periodOf 20 = .ok (.ireturn, 1) := do_ac DX8_periodOf_20
def TX8_leastOf_25 : List UInt8 := []
def TX8_leastOf_24 : List UInt8 := 176 :: TX8_leastOf_25
def TX8_leastOf_21 : List UInt8 := 184 :: 0 :: 134 :: TX8_leastOf_24
def TX8_leastOf_20 : List UInt8 := 100 :: TX8_leastOf_21
def TX8_leastOf_19 : List UInt8 := 4 :: TX8_leastOf_20
def TX8_leastOf_18 : List UInt8 := 104 :: TX8_leastOf_19
def TX8_leastOf_17 : List UInt8 := 27 :: TX8_leastOf_18
def TX8_leastOf_16 : List UInt8 := 5 :: TX8_leastOf_17
def TX8_leastOf_13 : List UInt8 := 167 :: 0 :: 6 :: TX8_leastOf_16
def TX8_leastOf_12 : List UInt8 := 27 :: TX8_leastOf_13
def TX8_leastOf_9 : List UInt8 := 154 :: 0 :: 7 :: TX8_leastOf_12
def TX8_leastOf_8 : List UInt8 := 112 :: TX8_leastOf_9
def TX8_leastOf_7 : List UInt8 := 5 :: TX8_leastOf_8
def TX8_leastOf_6 : List UInt8 := 27 :: TX8_leastOf_7
def TX8_leastOf_5 : List UInt8 := 26 :: TX8_leastOf_6
def TX8_leastOf_4 : List UInt8 := 60 :: TX8_leastOf_5
def TX8_leastOf_1 : List UInt8 := 184 :: 0 :: 142 :: TX8_leastOf_4
def TX8_leastOf_0 : List UInt8 := 26 :: TX8_leastOf_1
theorem DX8_leastOf_0 : cX8_leastOf.data.toList.drop 0 = TX8_leastOf_0 := by decide +kernel
theorem DX8_leastOf_1 : cX8_leastOf.data.toList.drop 1 = TX8_leastOf_1 := dr1 DX8_leastOf_0
theorem DX8_leastOf_4 : cX8_leastOf.data.toList.drop 4 = TX8_leastOf_4 := dr3 DX8_leastOf_1
theorem DX8_leastOf_5 : cX8_leastOf.data.toList.drop 5 = TX8_leastOf_5 := dr1 DX8_leastOf_4
theorem DX8_leastOf_6 : cX8_leastOf.data.toList.drop 6 = TX8_leastOf_6 := dr1 DX8_leastOf_5
theorem DX8_leastOf_7 : cX8_leastOf.data.toList.drop 7 = TX8_leastOf_7 := dr1 DX8_leastOf_6
theorem DX8_leastOf_8 : cX8_leastOf.data.toList.drop 8 = TX8_leastOf_8 := dr1 DX8_leastOf_7
theorem DX8_leastOf_9 : cX8_leastOf.data.toList.drop 9 = TX8_leastOf_9 := dr1 DX8_leastOf_8
theorem DX8_leastOf_12 : cX8_leastOf.data.toList.drop 12 = TX8_leastOf_12 := dr3 DX8_leastOf_9
theorem DX8_leastOf_13 : cX8_leastOf.data.toList.drop 13 = TX8_leastOf_13 := dr1 DX8_leastOf_12
theorem DX8_leastOf_16 : cX8_leastOf.data.toList.drop 16 = TX8_leastOf_16 := dr3 DX8_leastOf_13
theorem DX8_leastOf_17 : cX8_leastOf.data.toList.drop 17 = TX8_leastOf_17 := dr1 DX8_leastOf_16
theorem DX8_leastOf_18 : cX8_leastOf.data.toList.drop 18 = TX8_leastOf_18 := dr1 DX8_leastOf_17
theorem DX8_leastOf_19 : cX8_leastOf.data.toList.drop 19 = TX8_leastOf_19 := dr1 DX8_leastOf_18
theorem DX8_leastOf_20 : cX8_leastOf.data.toList.drop 20 = TX8_leastOf_20 := dr1 DX8_leastOf_19
theorem DX8_leastOf_21 : cX8_leastOf.data.toList.drop 21 = TX8_leastOf_21 := dr1 DX8_leastOf_20
theorem DX8_leastOf_24 : cX8_leastOf.data.toList.drop 24 = TX8_leastOf_24 := dr3 DX8_leastOf_21
theorem dX8_leastOf_0 : decode cX8_leastOf 0 = .ok (.iload_n 0, 1) := do_1a DX8_leastOf_0
theorem dX8_leastOf_1 : decode cX8_leastOf 1 = .ok (.invokestatic 142, 3) := do_b8 DX8_leastOf_1
theorem dX8_leastOf_4 : decode cX8_leastOf 4 = .ok (.istore_n 1, 1) := do_3c DX8_leastOf_4
theorem dX8_leastOf_5 : decode cX8_leastOf 5 = .ok (.iload_n 0, 1) := do_1a DX8_leastOf_5
theorem dX8_leastOf_6 : decode cX8_leastOf 6 = .ok (.iload_n 1, 1) := do_1b DX8_leastOf_6
theorem dX8_leastOf_7 : decode cX8_leastOf 7 = .ok (.iconst 2, 1) := do_05 DX8_leastOf_7
theorem dX8_leastOf_8 : decode cX8_leastOf 8 = .ok (.irem, 1) := do_70 DX8_leastOf_8
theorem dX8_leastOf_9 : decode cX8_leastOf 9 = .ok (.ifCond .ne 7, 3) := do_9a DX8_leastOf_9 (by decide +kernel)
theorem dX8_leastOf_12 : decode cX8_leastOf 12 = .ok (.iload_n 1, 1) := do_1b DX8_leastOf_12
theorem dX8_leastOf_13 : decode cX8_leastOf 13 = .ok (.goto 6, 3) := do_a7 DX8_leastOf_13 (by decide +kernel)
theorem dX8_leastOf_16 : decode cX8_leastOf 16 = .ok (.iconst 2, 1) := do_05 DX8_leastOf_16
theorem dX8_leastOf_17 : decode cX8_leastOf 17 = .ok (.iload_n 1, 1) := do_1b DX8_leastOf_17
theorem dX8_leastOf_18 : decode cX8_leastOf 18 = .ok (.imul, 1) := do_68 DX8_leastOf_18
theorem dX8_leastOf_19 : decode cX8_leastOf 19 = .ok (.iconst 1, 1) := do_04 DX8_leastOf_19
theorem dX8_leastOf_20 : decode cX8_leastOf 20 = .ok (.isub, 1) := do_64 DX8_leastOf_20
theorem dX8_leastOf_21 : decode cX8_leastOf 21 = .ok (.invokestatic 134, 3) := do_b8 DX8_leastOf_21
theorem dX8_leastOf_24 : decode cX8_leastOf 24 = .ok (.areturn, 1) := do_b0 DX8_leastOf_24
def TX8_open_50 : List UInt8 := []
def TX8_open_49 : List UInt8 := 172 :: TX8_open_50
def TX8_open_46 : List UInt8 := 182 :: 0 :: 155 :: TX8_open_49
def TX8_open_43 : List UInt8 := 184 :: 0 :: 130 :: TX8_open_46
def TX8_open_42 : List UInt8 := 28 :: TX8_open_43
def TX8_open_41 : List UInt8 := 3 :: TX8_open_42
def TX8_open_40 : List UInt8 := 42 :: TX8_open_41
def TX8_open_39 : List UInt8 := 79 :: TX8_open_40
def TX8_open_38 : List UInt8 := 3 :: TX8_open_39
def TX8_open_37 : List UInt8 := 27 :: TX8_open_38
def TX8_open_34 : List UInt8 := 180 :: 0 :: 13 :: TX8_open_37
def TX8_open_33 : List UInt8 := 42 :: TX8_open_34
def TX8_open_32 : List UInt8 := 79 :: TX8_open_33
def TX8_open_31 : List UInt8 := 28 :: TX8_open_32
def TX8_open_30 : List UInt8 := 27 :: TX8_open_31
def TX8_open_27 : List UInt8 := 180 :: 0 :: 9 :: TX8_open_30
def TX8_open_26 : List UInt8 := 42 :: TX8_open_27
def TX8_open_25 : List UInt8 := 172 :: TX8_open_26
def TX8_open_24 : List UInt8 := 3 :: TX8_open_25
def TX8_open_21 : List UInt8 := 153 :: 0 :: 5 :: TX8_open_24
def TX8_open_18 : List UInt8 := 182 :: 0 :: 45 :: TX8_open_21
def TX8_open_17 : List UInt8 := 5 :: TX8_open_18
def TX8_open_14 : List UInt8 := 184 :: 0 :: 152 :: TX8_open_17
def TX8_open_13 : List UInt8 := 28 :: TX8_open_14
def TX8_open_12 : List UInt8 := 42 :: TX8_open_13
def TX8_open_9 : List UInt8 := 154 :: 0 :: 15 :: TX8_open_12
def TX8_open_6 : List UInt8 := 182 :: 0 :: 149 :: TX8_open_9
def TX8_open_5 : List UInt8 := 4 :: TX8_open_6
def TX8_open_2 : List UInt8 := 184 :: 0 :: 145 :: TX8_open_5
def TX8_open_1 : List UInt8 := 27 :: TX8_open_2
def TX8_open_0 : List UInt8 := 42 :: TX8_open_1
theorem DX8_open_0 : cX8_open.data.toList.drop 0 = TX8_open_0 := by decide +kernel
theorem DX8_open_1 : cX8_open.data.toList.drop 1 = TX8_open_1 := dr1 DX8_open_0
theorem DX8_open_2 : cX8_open.data.toList.drop 2 = TX8_open_2 := dr1 DX8_open_1
theorem DX8_open_5 : cX8_open.data.toList.drop 5 = TX8_open_5 := dr3 DX8_open_2
theorem DX8_open_6 : cX8_open.data.toList.drop 6 = TX8_open_6 := dr1 DX8_open_5
theorem DX8_open_9 : cX8_open.data.toList.drop 9 = TX8_open_9 := dr3 DX8_open_6
theorem DX8_open_12 : cX8_open.data.toList.drop 12 = TX8_open_12 := dr3 DX8_open_9
theorem DX8_open_13 : cX8_open.data.toList.drop 13 = TX8_open_13 := dr1 DX8_open_12
theorem DX8_open_14 : cX8_open.data.toList.drop 14 = TX8_open_14 := dr1 DX8_open_13
theorem DX8_open_17 : cX8_open.data.toList.drop 17 = TX8_open_17 := dr3 DX8_open_14
theorem DX8_open_18 : cX8_open.data.toList.drop 18 = TX8_open_18 := dr1 DX8_open_17
theorem DX8_open_21 : cX8_open.data.toList.drop 21 = TX8_open_21 := dr3 DX8_open_18
theorem DX8_open_24 : cX8_open.data.toList.drop 24 = TX8_open_24 := dr3 DX8_open_21
theorem DX8_open_25 : cX8_open.data.toList.drop 25 = TX8_open_25 := dr1 DX8_open_24
theorem DX8_open_26 : cX8_open.data.toList.drop 26 = TX8_open_26 := dr1 DX8_open_25
theorem DX8_open_27 : cX8_open.data.toList.drop 27 = TX8_open_27 := dr1 DX8_open_26
theorem DX8_open_30 : cX8_open.data.toList.drop 30 = TX8_open_30 := dr3 DX8_open_27
theorem DX8_open_31 : cX8_open.data.toList.drop 31 = TX8_open_31 := dr1 DX8_open_30
theorem DX8_open_32 : cX8_open.data.toList.drop 32 = TX8_open_32 := dr1 DX8_open_31
theorem DX8_open_33 : cX8_open.data.toList.drop 33 = TX8_open_33 := dr1 DX8_open_32
theorem DX8_open_34 : cX8_open.data.toList.drop 34 = TX8_open_34 := dr1 DX8_open_33
theorem DX8_open_37 : cX8_open.data.toList.drop 37 = TX8_open_37 := dr3 DX8_open_34
theorem DX8_open_38 : cX8_open.data.toList.drop 38 = TX8_open_38 := dr1 DX8_open_37
theorem DX8_open_39 : cX8_open.data.toList.drop 39 = TX8_open_39 := dr1 DX8_open_38
theorem DX8_open_40 : cX8_open.data.toList.drop 40 = TX8_open_40 := dr1 DX8_open_39
theorem DX8_open_41 : cX8_open.data.toList.drop 41 = TX8_open_41 := dr1 DX8_open_40
theorem DX8_open_42 : cX8_open.data.toList.drop 42 = TX8_open_42 := dr1 DX8_open_41
theorem DX8_open_43 : cX8_open.data.toList.drop 43 = TX8_open_43 := dr1 DX8_open_42
theorem DX8_open_46 : cX8_open.data.toList.drop 46 = TX8_open_46 := dr3 DX8_open_43
theorem DX8_open_49 : cX8_open.data.toList.drop 49 = TX8_open_49 := dr3 DX8_open_46
theorem dX8_open_0 : decode cX8_open 0 = .ok (.aload_n 0, 1) := do_2a DX8_open_0
theorem dX8_open_1 : decode cX8_open 1 = .ok (.iload_n 1, 1) := do_1b DX8_open_1
theorem dX8_open_2 : decode cX8_open 2 = .ok (.invokestatic 145, 3) := do_b8 DX8_open_2
theorem dX8_open_5 : decode cX8_open 5 = .ok (.iconst 1, 1) := do_04 DX8_open_5
theorem dX8_open_6 : decode cX8_open 6 = .ok (.invokevirtual 149, 3) := do_b6 DX8_open_6
theorem dX8_open_9 : decode cX8_open 9 = .ok (.ifCond .ne 15, 3) := do_9a DX8_open_9 (by decide +kernel)
theorem dX8_open_12 : decode cX8_open 12 = .ok (.aload_n 0, 1) := do_2a DX8_open_12
theorem dX8_open_13 : decode cX8_open 13 = .ok (.iload_n 2, 1) := do_1c DX8_open_13
theorem dX8_open_14 : decode cX8_open 14 = .ok (.invokestatic 152, 3) := do_b8 DX8_open_14
theorem dX8_open_17 : decode cX8_open 17 = .ok (.iconst 2, 1) := do_05 DX8_open_17
theorem dX8_open_18 : decode cX8_open 18 = .ok (.invokevirtual 45, 3) := do_b6 DX8_open_18
theorem dX8_open_21 : decode cX8_open 21 = .ok (.ifCond .eq 5, 3) := do_99 DX8_open_21 (by decide +kernel)
theorem dX8_open_24 : decode cX8_open 24 = .ok (.iconst 0, 1) := do_03 DX8_open_24
theorem dX8_open_25 : decode cX8_open 25 = .ok (.ireturn, 1) := do_ac DX8_open_25
theorem dX8_open_26 : decode cX8_open 26 = .ok (.aload_n 0, 1) := do_2a DX8_open_26
theorem dX8_open_27 : decode cX8_open 27 = .ok (.getfield 9, 3) := do_b4 DX8_open_27
theorem dX8_open_30 : decode cX8_open 30 = .ok (.iload_n 1, 1) := do_1b DX8_open_30
theorem dX8_open_31 : decode cX8_open 31 = .ok (.iload_n 2, 1) := do_1c DX8_open_31
theorem dX8_open_32 : decode cX8_open 32 = .ok (.iastore, 1) := do_4f DX8_open_32
theorem dX8_open_33 : decode cX8_open 33 = .ok (.aload_n 0, 1) := do_2a DX8_open_33
theorem dX8_open_34 : decode cX8_open 34 = .ok (.getfield 13, 3) := do_b4 DX8_open_34
theorem dX8_open_37 : decode cX8_open 37 = .ok (.iload_n 1, 1) := do_1b DX8_open_37
theorem dX8_open_38 : decode cX8_open 38 = .ok (.iconst 0, 1) := do_03 DX8_open_38
theorem dX8_open_39 : decode cX8_open 39 = .ok (.iastore, 1) := do_4f DX8_open_39
theorem dX8_open_40 : decode cX8_open 40 = .ok (.aload_n 0, 1) := do_2a DX8_open_40
theorem dX8_open_41 : decode cX8_open 41 = .ok (.iconst 0, 1) := do_03 DX8_open_41
theorem dX8_open_42 : decode cX8_open 42 = .ok (.iload_n 2, 1) := do_1c DX8_open_42
theorem dX8_open_43 : decode cX8_open 43 = .ok (.invokestatic 130, 3) := do_b8 DX8_open_43
theorem dX8_open_46 : decode cX8_open 46 = .ok (.invokevirtual 155, 3) := do_b6 DX8_open_46
theorem dX8_open_49 : decode cX8_open 49 = .ok (.ireturn, 1) := do_ac DX8_open_49
def TX8_forth_77 : List UInt8 := []
def TX8_forth_76 : List UInt8 := 172 :: TX8_forth_77
def TX8_forth_73 : List UInt8 := 182 :: 0 :: 155 :: TX8_forth_76
def TX8_forth_72 : List UInt8 := 46 :: TX8_forth_73
def TX8_forth_71 : List UInt8 := 27 :: TX8_forth_72
def TX8_forth_68 : List UInt8 := 180 :: 0 :: 13 :: TX8_forth_71
def TX8_forth_67 : List UInt8 := 42 :: TX8_forth_68
def TX8_forth_66 : List UInt8 := 3 :: TX8_forth_67
def TX8_forth_65 : List UInt8 := 42 :: TX8_forth_66
def TX8_forth_64 : List UInt8 := 79 :: TX8_forth_65
def TX8_forth_63 : List UInt8 := 96 :: TX8_forth_64
def TX8_forth_62 : List UInt8 := 28 :: TX8_forth_63
def TX8_forth_61 : List UInt8 := 46 :: TX8_forth_62
def TX8_forth_60 : List UInt8 := 92 :: TX8_forth_61
def TX8_forth_59 : List UInt8 := 27 :: TX8_forth_60
def TX8_forth_56 : List UInt8 := 180 :: 0 :: 13 :: TX8_forth_59
def TX8_forth_55 : List UInt8 := 42 :: TX8_forth_56
def TX8_forth_54 : List UInt8 := 172 :: TX8_forth_55
def TX8_forth_51 : List UInt8 := 182 :: 0 :: 158 :: TX8_forth_54
def TX8_forth_50 : List UInt8 := 42 :: TX8_forth_51
def TX8_forth_47 : List UInt8 := 164 :: 0 :: 8 :: TX8_forth_50
def TX8_forth_45 : List UInt8 := 16 :: 24 :: TX8_forth_47
def TX8_forth_44 : List UInt8 := 96 :: TX8_forth_45
def TX8_forth_43 : List UInt8 := 28 :: TX8_forth_44
def TX8_forth_42 : List UInt8 := 46 :: TX8_forth_43
def TX8_forth_41 : List UInt8 := 27 :: TX8_forth_42
def TX8_forth_38 : List UInt8 := 180 :: 0 :: 13 :: TX8_forth_41
def TX8_forth_37 : List UInt8 := 42 :: TX8_forth_38
def TX8_forth_36 : List UInt8 := 172 :: TX8_forth_37
def TX8_forth_35 : List UInt8 := 3 :: TX8_forth_36
def TX8_forth_32 : List UInt8 := 153 :: 0 :: 5 :: TX8_forth_35
def TX8_forth_29 : List UInt8 := 182 :: 0 :: 45 :: TX8_forth_32
def TX8_forth_28 : List UInt8 := 5 :: TX8_forth_29
def TX8_forth_27 : List UInt8 := 3 :: TX8_forth_28
def TX8_forth_24 : List UInt8 := 167 :: 0 :: 4 :: TX8_forth_27
def TX8_forth_23 : List UInt8 := 4 :: TX8_forth_24
def TX8_forth_20 : List UInt8 := 154 :: 0 :: 7 :: TX8_forth_23
def TX8_forth_17 : List UInt8 := 184 :: 0 :: 49 :: TX8_forth_20
def TX8_forth_15 : List UInt8 := 16 :: 6 :: TX8_forth_17
def TX8_forth_14 : List UInt8 := 4 :: TX8_forth_15
def TX8_forth_13 : List UInt8 := 28 :: TX8_forth_14
def TX8_forth_12 : List UInt8 := 42 :: TX8_forth_13
def TX8_forth_9 : List UInt8 := 154 :: 0 :: 26 :: TX8_forth_12
def TX8_forth_6 : List UInt8 := 182 :: 0 :: 149 :: TX8_forth_9
def TX8_forth_5 : List UInt8 := 4 :: TX8_forth_6
def TX8_forth_2 : List UInt8 := 184 :: 0 :: 145 :: TX8_forth_5
def TX8_forth_1 : List UInt8 := 27 :: TX8_forth_2
def TX8_forth_0 : List UInt8 := 42 :: TX8_forth_1
theorem DX8_forth_0 : cX8_forth.data.toList.drop 0 = TX8_forth_0 := by decide +kernel
theorem DX8_forth_1 : cX8_forth.data.toList.drop 1 = TX8_forth_1 := dr1 DX8_forth_0
theorem DX8_forth_2 : cX8_forth.data.toList.drop 2 = TX8_forth_2 := dr1 DX8_forth_1
theorem DX8_forth_5 : cX8_forth.data.toList.drop 5 = TX8_forth_5 := dr3 DX8_forth_2
theorem DX8_forth_6 : cX8_forth.data.toList.drop 6 = TX8_forth_6 := dr1 DX8_forth_5
theorem DX8_forth_9 : cX8_forth.data.toList.drop 9 = TX8_forth_9 := dr3 DX8_forth_6
theorem DX8_forth_12 : cX8_forth.data.toList.drop 12 = TX8_forth_12 := dr3 DX8_forth_9
theorem DX8_forth_13 : cX8_forth.data.toList.drop 13 = TX8_forth_13 := dr1 DX8_forth_12
theorem DX8_forth_14 : cX8_forth.data.toList.drop 14 = TX8_forth_14 := dr1 DX8_forth_13
theorem DX8_forth_15 : cX8_forth.data.toList.drop 15 = TX8_forth_15 := dr1 DX8_forth_14
theorem DX8_forth_17 : cX8_forth.data.toList.drop 17 = TX8_forth_17 := dr2 DX8_forth_15
theorem DX8_forth_20 : cX8_forth.data.toList.drop 20 = TX8_forth_20 := dr3 DX8_forth_17
theorem DX8_forth_23 : cX8_forth.data.toList.drop 23 = TX8_forth_23 := dr3 DX8_forth_20
theorem DX8_forth_24 : cX8_forth.data.toList.drop 24 = TX8_forth_24 := dr1 DX8_forth_23
theorem DX8_forth_27 : cX8_forth.data.toList.drop 27 = TX8_forth_27 := dr3 DX8_forth_24
theorem DX8_forth_28 : cX8_forth.data.toList.drop 28 = TX8_forth_28 := dr1 DX8_forth_27
theorem DX8_forth_29 : cX8_forth.data.toList.drop 29 = TX8_forth_29 := dr1 DX8_forth_28
theorem DX8_forth_32 : cX8_forth.data.toList.drop 32 = TX8_forth_32 := dr3 DX8_forth_29
theorem DX8_forth_35 : cX8_forth.data.toList.drop 35 = TX8_forth_35 := dr3 DX8_forth_32
theorem DX8_forth_36 : cX8_forth.data.toList.drop 36 = TX8_forth_36 := dr1 DX8_forth_35
theorem DX8_forth_37 : cX8_forth.data.toList.drop 37 = TX8_forth_37 := dr1 DX8_forth_36
theorem DX8_forth_38 : cX8_forth.data.toList.drop 38 = TX8_forth_38 := dr1 DX8_forth_37
theorem DX8_forth_41 : cX8_forth.data.toList.drop 41 = TX8_forth_41 := dr3 DX8_forth_38
theorem DX8_forth_42 : cX8_forth.data.toList.drop 42 = TX8_forth_42 := dr1 DX8_forth_41
theorem DX8_forth_43 : cX8_forth.data.toList.drop 43 = TX8_forth_43 := dr1 DX8_forth_42
theorem DX8_forth_44 : cX8_forth.data.toList.drop 44 = TX8_forth_44 := dr1 DX8_forth_43
theorem DX8_forth_45 : cX8_forth.data.toList.drop 45 = TX8_forth_45 := dr1 DX8_forth_44
theorem DX8_forth_47 : cX8_forth.data.toList.drop 47 = TX8_forth_47 := dr2 DX8_forth_45
theorem DX8_forth_50 : cX8_forth.data.toList.drop 50 = TX8_forth_50 := dr3 DX8_forth_47
theorem DX8_forth_51 : cX8_forth.data.toList.drop 51 = TX8_forth_51 := dr1 DX8_forth_50
theorem DX8_forth_54 : cX8_forth.data.toList.drop 54 = TX8_forth_54 := dr3 DX8_forth_51
theorem DX8_forth_55 : cX8_forth.data.toList.drop 55 = TX8_forth_55 := dr1 DX8_forth_54
theorem DX8_forth_56 : cX8_forth.data.toList.drop 56 = TX8_forth_56 := dr1 DX8_forth_55
theorem DX8_forth_59 : cX8_forth.data.toList.drop 59 = TX8_forth_59 := dr3 DX8_forth_56
theorem DX8_forth_60 : cX8_forth.data.toList.drop 60 = TX8_forth_60 := dr1 DX8_forth_59
theorem DX8_forth_61 : cX8_forth.data.toList.drop 61 = TX8_forth_61 := dr1 DX8_forth_60
theorem DX8_forth_62 : cX8_forth.data.toList.drop 62 = TX8_forth_62 := dr1 DX8_forth_61
theorem DX8_forth_63 : cX8_forth.data.toList.drop 63 = TX8_forth_63 := dr1 DX8_forth_62
theorem DX8_forth_64 : cX8_forth.data.toList.drop 64 = TX8_forth_64 := dr1 DX8_forth_63
theorem DX8_forth_65 : cX8_forth.data.toList.drop 65 = TX8_forth_65 := dr1 DX8_forth_64
theorem DX8_forth_66 : cX8_forth.data.toList.drop 66 = TX8_forth_66 := dr1 DX8_forth_65
theorem DX8_forth_67 : cX8_forth.data.toList.drop 67 = TX8_forth_67 := dr1 DX8_forth_66
theorem DX8_forth_68 : cX8_forth.data.toList.drop 68 = TX8_forth_68 := dr1 DX8_forth_67
theorem DX8_forth_71 : cX8_forth.data.toList.drop 71 = TX8_forth_71 := dr3 DX8_forth_68
theorem DX8_forth_72 : cX8_forth.data.toList.drop 72 = TX8_forth_72 := dr1 DX8_forth_71
theorem DX8_forth_73 : cX8_forth.data.toList.drop 73 = TX8_forth_73 := dr1 DX8_forth_72
theorem DX8_forth_76 : cX8_forth.data.toList.drop 76 = TX8_forth_76 := dr3 DX8_forth_73
theorem dX8_forth_0 : decode cX8_forth 0 = .ok (.aload_n 0, 1) := do_2a DX8_forth_0
theorem dX8_forth_1 : decode cX8_forth 1 = .ok (.iload_n 1, 1) := do_1b DX8_forth_1
theorem dX8_forth_2 : decode cX8_forth 2 = .ok (.invokestatic 145, 3) := do_b8 DX8_forth_2
theorem dX8_forth_5 : decode cX8_forth 5 = .ok (.iconst 1, 1) := do_04 DX8_forth_5
theorem dX8_forth_6 : decode cX8_forth 6 = .ok (.invokevirtual 149, 3) := do_b6 DX8_forth_6
theorem dX8_forth_9 : decode cX8_forth 9 = .ok (.ifCond .ne 26, 3) := do_9a DX8_forth_9 (by decide +kernel)
theorem dX8_forth_12 : decode cX8_forth 12 = .ok (.aload_n 0, 1) := do_2a DX8_forth_12
theorem dX8_forth_13 : decode cX8_forth 13 = .ok (.iload_n 2, 1) := do_1c DX8_forth_13
theorem dX8_forth_14 : decode cX8_forth 14 = .ok (.iconst 1, 1) := do_04 DX8_forth_14
theorem dX8_forth_15 : decode cX8_forth 15 = .ok (.bipush 6, 2) := do_10 DX8_forth_15 (by decide +kernel)
theorem dX8_forth_17 : decode cX8_forth 17 = .ok (.invokestatic 49, 3) := do_b8 DX8_forth_17
theorem dX8_forth_20 : decode cX8_forth 20 = .ok (.ifCond .ne 7, 3) := do_9a DX8_forth_20 (by decide +kernel)
theorem dX8_forth_23 : decode cX8_forth 23 = .ok (.iconst 1, 1) := do_04 DX8_forth_23
theorem dX8_forth_24 : decode cX8_forth 24 = .ok (.goto 4, 3) := do_a7 DX8_forth_24 (by decide +kernel)
theorem dX8_forth_27 : decode cX8_forth 27 = .ok (.iconst 0, 1) := do_03 DX8_forth_27
theorem dX8_forth_28 : decode cX8_forth 28 = .ok (.iconst 2, 1) := do_05 DX8_forth_28
theorem dX8_forth_29 : decode cX8_forth 29 = .ok (.invokevirtual 45, 3) := do_b6 DX8_forth_29
theorem dX8_forth_32 : decode cX8_forth 32 = .ok (.ifCond .eq 5, 3) := do_99 DX8_forth_32 (by decide +kernel)
theorem dX8_forth_35 : decode cX8_forth 35 = .ok (.iconst 0, 1) := do_03 DX8_forth_35
theorem dX8_forth_36 : decode cX8_forth 36 = .ok (.ireturn, 1) := do_ac DX8_forth_36
theorem dX8_forth_37 : decode cX8_forth 37 = .ok (.aload_n 0, 1) := do_2a DX8_forth_37
theorem dX8_forth_38 : decode cX8_forth 38 = .ok (.getfield 13, 3) := do_b4 DX8_forth_38
theorem dX8_forth_41 : decode cX8_forth 41 = .ok (.iload_n 1, 1) := do_1b DX8_forth_41
theorem dX8_forth_42 : decode cX8_forth 42 = .ok (.iaload, 1) := do_2e DX8_forth_42
theorem dX8_forth_43 : decode cX8_forth 43 = .ok (.iload_n 2, 1) := do_1c DX8_forth_43
theorem dX8_forth_44 : decode cX8_forth 44 = .ok (.iadd, 1) := do_60 DX8_forth_44
theorem dX8_forth_45 : decode cX8_forth 45 = .ok (.bipush 24, 2) := do_10 DX8_forth_45 (by decide +kernel)
theorem dX8_forth_47 : decode cX8_forth 47 = .ok (.if_icmp .le 8, 3) := do_a4 DX8_forth_47 (by decide +kernel)
theorem dX8_forth_50 : decode cX8_forth 50 = .ok (.aload_n 0, 1) := do_2a DX8_forth_50
theorem dX8_forth_51 : decode cX8_forth 51 = .ok (.invokevirtual 158, 3) := do_b6 DX8_forth_51
theorem dX8_forth_54 : decode cX8_forth 54 = .ok (.ireturn, 1) := do_ac DX8_forth_54
theorem dX8_forth_55 : decode cX8_forth 55 = .ok (.aload_n 0, 1) := do_2a DX8_forth_55
theorem dX8_forth_56 : decode cX8_forth 56 = .ok (.getfield 13, 3) := do_b4 DX8_forth_56
theorem dX8_forth_59 : decode cX8_forth 59 = .ok (.iload_n 1, 1) := do_1b DX8_forth_59
theorem dX8_forth_60 : decode cX8_forth 60 = .ok (.dup2, 1) := do_5c DX8_forth_60
theorem dX8_forth_61 : decode cX8_forth 61 = .ok (.iaload, 1) := do_2e DX8_forth_61
theorem dX8_forth_62 : decode cX8_forth 62 = .ok (.iload_n 2, 1) := do_1c DX8_forth_62
theorem dX8_forth_63 : decode cX8_forth 63 = .ok (.iadd, 1) := do_60 DX8_forth_63
theorem dX8_forth_64 : decode cX8_forth 64 = .ok (.iastore, 1) := do_4f DX8_forth_64
theorem dX8_forth_65 : decode cX8_forth 65 = .ok (.aload_n 0, 1) := do_2a DX8_forth_65
theorem dX8_forth_66 : decode cX8_forth 66 = .ok (.iconst 0, 1) := do_03 DX8_forth_66
theorem dX8_forth_67 : decode cX8_forth 67 = .ok (.aload_n 0, 1) := do_2a DX8_forth_67
theorem dX8_forth_68 : decode cX8_forth 68 = .ok (.getfield 13, 3) := do_b4 DX8_forth_68
theorem dX8_forth_71 : decode cX8_forth 71 = .ok (.iload_n 1, 1) := do_1b DX8_forth_71
theorem dX8_forth_72 : decode cX8_forth 72 = .ok (.iaload, 1) := do_2e DX8_forth_72
theorem dX8_forth_73 : decode cX8_forth 73 = .ok (.invokevirtual 155, 3) := do_b6 DX8_forth_73
theorem dX8_forth_76 : decode cX8_forth 76 = .ok (.ireturn, 1) := do_ac DX8_forth_76
def TX8_back_50 : List UInt8 := []
def TX8_back_49 : List UInt8 := 172 :: TX8_back_50
def TX8_back_46 : List UInt8 := 182 :: 0 :: 155 :: TX8_back_49
def TX8_back_45 : List UInt8 := 46 :: TX8_back_46
def TX8_back_44 : List UInt8 := 27 :: TX8_back_45
def TX8_back_41 : List UInt8 := 180 :: 0 :: 13 :: TX8_back_44
def TX8_back_40 : List UInt8 := 42 :: TX8_back_41
def TX8_back_39 : List UInt8 := 3 :: TX8_back_40
def TX8_back_38 : List UInt8 := 42 :: TX8_back_39
def TX8_back_37 : List UInt8 := 79 :: TX8_back_38
def TX8_back_36 : List UInt8 := 100 :: TX8_back_37
def TX8_back_35 : List UInt8 := 4 :: TX8_back_36
def TX8_back_34 : List UInt8 := 46 :: TX8_back_35
def TX8_back_33 : List UInt8 := 92 :: TX8_back_34
def TX8_back_32 : List UInt8 := 27 :: TX8_back_33
def TX8_back_29 : List UInt8 := 180 :: 0 :: 13 :: TX8_back_32
def TX8_back_28 : List UInt8 := 42 :: TX8_back_29
def TX8_back_27 : List UInt8 := 172 :: TX8_back_28
def TX8_back_24 : List UInt8 := 182 :: 0 :: 158 :: TX8_back_27
def TX8_back_23 : List UInt8 := 42 :: TX8_back_24
def TX8_back_20 : List UInt8 := 154 :: 0 :: 8 :: TX8_back_23
def TX8_back_19 : List UInt8 := 46 :: TX8_back_20
def TX8_back_18 : List UInt8 := 27 :: TX8_back_19
def TX8_back_15 : List UInt8 := 180 :: 0 :: 13 :: TX8_back_18
def TX8_back_14 : List UInt8 := 42 :: TX8_back_15
def TX8_back_13 : List UInt8 := 172 :: TX8_back_14
def TX8_back_12 : List UInt8 := 3 :: TX8_back_13
def TX8_back_9 : List UInt8 := 153 :: 0 :: 5 :: TX8_back_12
def TX8_back_6 : List UInt8 := 182 :: 0 :: 149 :: TX8_back_9
def TX8_back_5 : List UInt8 := 4 :: TX8_back_6
def TX8_back_2 : List UInt8 := 184 :: 0 :: 145 :: TX8_back_5
def TX8_back_1 : List UInt8 := 27 :: TX8_back_2
def TX8_back_0 : List UInt8 := 42 :: TX8_back_1
theorem DX8_back_0 : cX8_back.data.toList.drop 0 = TX8_back_0 := by decide +kernel
theorem DX8_back_1 : cX8_back.data.toList.drop 1 = TX8_back_1 := dr1 DX8_back_0
theorem DX8_back_2 : cX8_back.data.toList.drop 2 = TX8_back_2 := dr1 DX8_back_1
theorem DX8_back_5 : cX8_back.data.toList.drop 5 = TX8_back_5 := dr3 DX8_back_2
theorem DX8_back_6 : cX8_back.data.toList.drop 6 = TX8_back_6 := dr1 DX8_back_5
theorem DX8_back_9 : cX8_back.data.toList.drop 9 = TX8_back_9 := dr3 DX8_back_6
theorem DX8_back_12 : cX8_back.data.toList.drop 12 = TX8_back_12 := dr3 DX8_back_9
theorem DX8_back_13 : cX8_back.data.toList.drop 13 = TX8_back_13 := dr1 DX8_back_12
theorem DX8_back_14 : cX8_back.data.toList.drop 14 = TX8_back_14 := dr1 DX8_back_13
theorem DX8_back_15 : cX8_back.data.toList.drop 15 = TX8_back_15 := dr1 DX8_back_14
theorem DX8_back_18 : cX8_back.data.toList.drop 18 = TX8_back_18 := dr3 DX8_back_15
theorem DX8_back_19 : cX8_back.data.toList.drop 19 = TX8_back_19 := dr1 DX8_back_18
theorem DX8_back_20 : cX8_back.data.toList.drop 20 = TX8_back_20 := dr1 DX8_back_19
theorem DX8_back_23 : cX8_back.data.toList.drop 23 = TX8_back_23 := dr3 DX8_back_20
theorem DX8_back_24 : cX8_back.data.toList.drop 24 = TX8_back_24 := dr1 DX8_back_23
theorem DX8_back_27 : cX8_back.data.toList.drop 27 = TX8_back_27 := dr3 DX8_back_24
theorem DX8_back_28 : cX8_back.data.toList.drop 28 = TX8_back_28 := dr1 DX8_back_27
theorem DX8_back_29 : cX8_back.data.toList.drop 29 = TX8_back_29 := dr1 DX8_back_28
theorem DX8_back_32 : cX8_back.data.toList.drop 32 = TX8_back_32 := dr3 DX8_back_29
theorem DX8_back_33 : cX8_back.data.toList.drop 33 = TX8_back_33 := dr1 DX8_back_32
theorem DX8_back_34 : cX8_back.data.toList.drop 34 = TX8_back_34 := dr1 DX8_back_33
theorem DX8_back_35 : cX8_back.data.toList.drop 35 = TX8_back_35 := dr1 DX8_back_34
theorem DX8_back_36 : cX8_back.data.toList.drop 36 = TX8_back_36 := dr1 DX8_back_35
theorem DX8_back_37 : cX8_back.data.toList.drop 37 = TX8_back_37 := dr1 DX8_back_36
theorem DX8_back_38 : cX8_back.data.toList.drop 38 = TX8_back_38 := dr1 DX8_back_37
theorem DX8_back_39 : cX8_back.data.toList.drop 39 = TX8_back_39 := dr1 DX8_back_38
theorem DX8_back_40 : cX8_back.data.toList.drop 40 = TX8_back_40 := dr1 DX8_back_39
theorem DX8_back_41 : cX8_back.data.toList.drop 41 = TX8_back_41 := dr1 DX8_back_40
theorem DX8_back_44 : cX8_back.data.toList.drop 44 = TX8_back_44 := dr3 DX8_back_41
theorem DX8_back_45 : cX8_back.data.toList.drop 45 = TX8_back_45 := dr1 DX8_back_44
theorem DX8_back_46 : cX8_back.data.toList.drop 46 = TX8_back_46 := dr1 DX8_back_45
theorem DX8_back_49 : cX8_back.data.toList.drop 49 = TX8_back_49 := dr3 DX8_back_46
theorem dX8_back_0 : decode cX8_back 0 = .ok (.aload_n 0, 1) := do_2a DX8_back_0
theorem dX8_back_1 : decode cX8_back 1 = .ok (.iload_n 1, 1) := do_1b DX8_back_1
theorem dX8_back_2 : decode cX8_back 2 = .ok (.invokestatic 145, 3) := do_b8 DX8_back_2
theorem dX8_back_5 : decode cX8_back 5 = .ok (.iconst 1, 1) := do_04 DX8_back_5
theorem dX8_back_6 : decode cX8_back 6 = .ok (.invokevirtual 149, 3) := do_b6 DX8_back_6
theorem dX8_back_9 : decode cX8_back 9 = .ok (.ifCond .eq 5, 3) := do_99 DX8_back_9 (by decide +kernel)
theorem dX8_back_12 : decode cX8_back 12 = .ok (.iconst 0, 1) := do_03 DX8_back_12
theorem dX8_back_13 : decode cX8_back 13 = .ok (.ireturn, 1) := do_ac DX8_back_13
theorem dX8_back_14 : decode cX8_back 14 = .ok (.aload_n 0, 1) := do_2a DX8_back_14
theorem dX8_back_15 : decode cX8_back 15 = .ok (.getfield 13, 3) := do_b4 DX8_back_15
theorem dX8_back_18 : decode cX8_back 18 = .ok (.iload_n 1, 1) := do_1b DX8_back_18
theorem dX8_back_19 : decode cX8_back 19 = .ok (.iaload, 1) := do_2e DX8_back_19
theorem dX8_back_20 : decode cX8_back 20 = .ok (.ifCond .ne 8, 3) := do_9a DX8_back_20 (by decide +kernel)
theorem dX8_back_23 : decode cX8_back 23 = .ok (.aload_n 0, 1) := do_2a DX8_back_23
theorem dX8_back_24 : decode cX8_back 24 = .ok (.invokevirtual 158, 3) := do_b6 DX8_back_24
theorem dX8_back_27 : decode cX8_back 27 = .ok (.ireturn, 1) := do_ac DX8_back_27
theorem dX8_back_28 : decode cX8_back 28 = .ok (.aload_n 0, 1) := do_2a DX8_back_28
theorem dX8_back_29 : decode cX8_back 29 = .ok (.getfield 13, 3) := do_b4 DX8_back_29
theorem dX8_back_32 : decode cX8_back 32 = .ok (.iload_n 1, 1) := do_1b DX8_back_32
theorem dX8_back_33 : decode cX8_back 33 = .ok (.dup2, 1) := do_5c DX8_back_33
theorem dX8_back_34 : decode cX8_back 34 = .ok (.iaload, 1) := do_2e DX8_back_34
theorem dX8_back_35 : decode cX8_back 35 = .ok (.iconst 1, 1) := do_04 DX8_back_35
theorem dX8_back_36 : decode cX8_back 36 = .ok (.isub, 1) := do_64 DX8_back_36
theorem dX8_back_37 : decode cX8_back 37 = .ok (.iastore, 1) := do_4f DX8_back_37
theorem dX8_back_38 : decode cX8_back 38 = .ok (.aload_n 0, 1) := do_2a DX8_back_38
theorem dX8_back_39 : decode cX8_back 39 = .ok (.iconst 0, 1) := do_03 DX8_back_39
theorem dX8_back_40 : decode cX8_back 40 = .ok (.aload_n 0, 1) := do_2a DX8_back_40
theorem dX8_back_41 : decode cX8_back 41 = .ok (.getfield 13, 3) := do_b4 DX8_back_41
theorem dX8_back_44 : decode cX8_back 44 = .ok (.iload_n 1, 1) := do_1b DX8_back_44
theorem dX8_back_45 : decode cX8_back 45 = .ok (.iaload, 1) := do_2e DX8_back_45
theorem dX8_back_46 : decode cX8_back 46 = .ok (.invokevirtual 155, 3) := do_b6 DX8_back_46
theorem dX8_back_49 : decode cX8_back 49 = .ok (.ireturn, 1) := do_ac DX8_back_49
def TX8_walkCopy_104 : List UInt8 := []
def TX8_walkCopy_103 : List UInt8 := 172 :: TX8_walkCopy_104
def TX8_walkCopy_100 : List UInt8 := 182 :: 0 :: 155 :: TX8_walkCopy_103
def TX8_walkCopy_99 : List UInt8 := 3 :: TX8_walkCopy_100
def TX8_walkCopy_96 : List UInt8 := 167 :: 0 :: 4 :: TX8_walkCopy_99
def TX8_walkCopy_95 : List UInt8 := 4 :: TX8_walkCopy_96
def TX8_walkCopy_92 : List UInt8 := 153 :: 0 :: 7 :: TX8_walkCopy_95
def TX8_walkCopy_91 : List UInt8 := 29 :: TX8_walkCopy_92
def TX8_walkCopy_90 : List UInt8 := 3 :: TX8_walkCopy_91
def TX8_walkCopy_89 : List UInt8 := 42 :: TX8_walkCopy_90
def TX8_walkCopy_88 : List UInt8 := 79 :: TX8_walkCopy_89
def TX8_walkCopy_87 : List UInt8 := 46 :: TX8_walkCopy_88
def TX8_walkCopy_86 : List UInt8 := 27 :: TX8_walkCopy_87
def TX8_walkCopy_83 : List UInt8 := 180 :: 0 :: 13 :: TX8_walkCopy_86
def TX8_walkCopy_82 : List UInt8 := 42 :: TX8_walkCopy_83
def TX8_walkCopy_81 : List UInt8 := 28 :: TX8_walkCopy_82
def TX8_walkCopy_78 : List UInt8 := 180 :: 0 :: 13 :: TX8_walkCopy_81
def TX8_walkCopy_77 : List UInt8 := 42 :: TX8_walkCopy_78
def TX8_walkCopy_76 : List UInt8 := 79 :: TX8_walkCopy_77
def TX8_walkCopy_75 : List UInt8 := 46 :: TX8_walkCopy_76
def TX8_walkCopy_74 : List UInt8 := 27 :: TX8_walkCopy_75
def TX8_walkCopy_71 : List UInt8 := 180 :: 0 :: 9 :: TX8_walkCopy_74
def TX8_walkCopy_70 : List UInt8 := 42 :: TX8_walkCopy_71
def TX8_walkCopy_69 : List UInt8 := 28 :: TX8_walkCopy_70
def TX8_walkCopy_66 : List UInt8 := 180 :: 0 :: 9 :: TX8_walkCopy_69
def TX8_walkCopy_65 : List UInt8 := 42 :: TX8_walkCopy_66
def TX8_walkCopy_64 : List UInt8 := 62 :: TX8_walkCopy_65
def TX8_walkCopy_63 : List UInt8 := 3 :: TX8_walkCopy_64
def TX8_walkCopy_60 : List UInt8 := 167 :: 0 :: 4 :: TX8_walkCopy_63
def TX8_walkCopy_59 : List UInt8 := 4 :: TX8_walkCopy_60
def TX8_walkCopy_56 : List UInt8 := 159 :: 0 :: 7 :: TX8_walkCopy_59
def TX8_walkCopy_55 : List UInt8 := 46 :: TX8_walkCopy_56
def TX8_walkCopy_54 : List UInt8 := 28 :: TX8_walkCopy_55
def TX8_walkCopy_51 : List UInt8 := 180 :: 0 :: 13 :: TX8_walkCopy_54
def TX8_walkCopy_50 : List UInt8 := 42 :: TX8_walkCopy_51
def TX8_walkCopy_49 : List UInt8 := 46 :: TX8_walkCopy_50
def TX8_walkCopy_48 : List UInt8 := 27 :: TX8_walkCopy_49
def TX8_walkCopy_45 : List UInt8 := 180 :: 0 :: 13 :: TX8_walkCopy_48
def TX8_walkCopy_44 : List UInt8 := 42 :: TX8_walkCopy_45
def TX8_walkCopy_41 : List UInt8 := 160 :: 0 :: 18 :: TX8_walkCopy_44
def TX8_walkCopy_40 : List UInt8 := 46 :: TX8_walkCopy_41
def TX8_walkCopy_39 : List UInt8 := 28 :: TX8_walkCopy_40
def TX8_walkCopy_36 : List UInt8 := 180 :: 0 :: 9 :: TX8_walkCopy_39
def TX8_walkCopy_35 : List UInt8 := 42 :: TX8_walkCopy_36
def TX8_walkCopy_34 : List UInt8 := 46 :: TX8_walkCopy_35
def TX8_walkCopy_33 : List UInt8 := 27 :: TX8_walkCopy_34
def TX8_walkCopy_30 : List UInt8 := 180 :: 0 :: 9 :: TX8_walkCopy_33
def TX8_walkCopy_29 : List UInt8 := 42 :: TX8_walkCopy_30
def TX8_walkCopy_28 : List UInt8 := 172 :: TX8_walkCopy_29
def TX8_walkCopy_27 : List UInt8 := 3 :: TX8_walkCopy_28
def TX8_walkCopy_24 : List UInt8 := 153 :: 0 :: 5 :: TX8_walkCopy_27
def TX8_walkCopy_21 : List UInt8 := 182 :: 0 :: 149 :: TX8_walkCopy_24
def TX8_walkCopy_20 : List UInt8 := 4 :: TX8_walkCopy_21
def TX8_walkCopy_19 : List UInt8 := 3 :: TX8_walkCopy_20
def TX8_walkCopy_16 : List UInt8 := 167 :: 0 :: 4 :: TX8_walkCopy_19
def TX8_walkCopy_15 : List UInt8 := 4 :: TX8_walkCopy_16
def TX8_walkCopy_12 : List UInt8 := 153 :: 0 :: 7 :: TX8_walkCopy_15
def TX8_walkCopy_9 : List UInt8 := 184 :: 0 :: 145 :: TX8_walkCopy_12
def TX8_walkCopy_8 : List UInt8 := 28 :: TX8_walkCopy_9
def TX8_walkCopy_5 : List UInt8 := 154 :: 0 :: 10 :: TX8_walkCopy_8
def TX8_walkCopy_2 : List UInt8 := 184 :: 0 :: 145 :: TX8_walkCopy_5
def TX8_walkCopy_1 : List UInt8 := 27 :: TX8_walkCopy_2
def TX8_walkCopy_0 : List UInt8 := 42 :: TX8_walkCopy_1
theorem DX8_walkCopy_0 : cX8_walkCopy.data.toList.drop 0 = TX8_walkCopy_0 := by decide +kernel
theorem DX8_walkCopy_1 : cX8_walkCopy.data.toList.drop 1 = TX8_walkCopy_1 := dr1 DX8_walkCopy_0
theorem DX8_walkCopy_2 : cX8_walkCopy.data.toList.drop 2 = TX8_walkCopy_2 := dr1 DX8_walkCopy_1
theorem DX8_walkCopy_5 : cX8_walkCopy.data.toList.drop 5 = TX8_walkCopy_5 := dr3 DX8_walkCopy_2
theorem DX8_walkCopy_8 : cX8_walkCopy.data.toList.drop 8 = TX8_walkCopy_8 := dr3 DX8_walkCopy_5
theorem DX8_walkCopy_9 : cX8_walkCopy.data.toList.drop 9 = TX8_walkCopy_9 := dr1 DX8_walkCopy_8
theorem DX8_walkCopy_12 : cX8_walkCopy.data.toList.drop 12 = TX8_walkCopy_12 := dr3 DX8_walkCopy_9
theorem DX8_walkCopy_15 : cX8_walkCopy.data.toList.drop 15 = TX8_walkCopy_15 := dr3 DX8_walkCopy_12
theorem DX8_walkCopy_16 : cX8_walkCopy.data.toList.drop 16 = TX8_walkCopy_16 := dr1 DX8_walkCopy_15
theorem DX8_walkCopy_19 : cX8_walkCopy.data.toList.drop 19 = TX8_walkCopy_19 := dr3 DX8_walkCopy_16
theorem DX8_walkCopy_20 : cX8_walkCopy.data.toList.drop 20 = TX8_walkCopy_20 := dr1 DX8_walkCopy_19
theorem DX8_walkCopy_21 : cX8_walkCopy.data.toList.drop 21 = TX8_walkCopy_21 := dr1 DX8_walkCopy_20
theorem DX8_walkCopy_24 : cX8_walkCopy.data.toList.drop 24 = TX8_walkCopy_24 := dr3 DX8_walkCopy_21
theorem DX8_walkCopy_27 : cX8_walkCopy.data.toList.drop 27 = TX8_walkCopy_27 := dr3 DX8_walkCopy_24
theorem DX8_walkCopy_28 : cX8_walkCopy.data.toList.drop 28 = TX8_walkCopy_28 := dr1 DX8_walkCopy_27
theorem DX8_walkCopy_29 : cX8_walkCopy.data.toList.drop 29 = TX8_walkCopy_29 := dr1 DX8_walkCopy_28
theorem DX8_walkCopy_30 : cX8_walkCopy.data.toList.drop 30 = TX8_walkCopy_30 := dr1 DX8_walkCopy_29
theorem DX8_walkCopy_33 : cX8_walkCopy.data.toList.drop 33 = TX8_walkCopy_33 := dr3 DX8_walkCopy_30
theorem DX8_walkCopy_34 : cX8_walkCopy.data.toList.drop 34 = TX8_walkCopy_34 := dr1 DX8_walkCopy_33
theorem DX8_walkCopy_35 : cX8_walkCopy.data.toList.drop 35 = TX8_walkCopy_35 := dr1 DX8_walkCopy_34
theorem DX8_walkCopy_36 : cX8_walkCopy.data.toList.drop 36 = TX8_walkCopy_36 := dr1 DX8_walkCopy_35
theorem DX8_walkCopy_39 : cX8_walkCopy.data.toList.drop 39 = TX8_walkCopy_39 := dr3 DX8_walkCopy_36
theorem DX8_walkCopy_40 : cX8_walkCopy.data.toList.drop 40 = TX8_walkCopy_40 := dr1 DX8_walkCopy_39
theorem DX8_walkCopy_41 : cX8_walkCopy.data.toList.drop 41 = TX8_walkCopy_41 := dr1 DX8_walkCopy_40
theorem DX8_walkCopy_44 : cX8_walkCopy.data.toList.drop 44 = TX8_walkCopy_44 := dr3 DX8_walkCopy_41
theorem DX8_walkCopy_45 : cX8_walkCopy.data.toList.drop 45 = TX8_walkCopy_45 := dr1 DX8_walkCopy_44
theorem DX8_walkCopy_48 : cX8_walkCopy.data.toList.drop 48 = TX8_walkCopy_48 := dr3 DX8_walkCopy_45
theorem DX8_walkCopy_49 : cX8_walkCopy.data.toList.drop 49 = TX8_walkCopy_49 := dr1 DX8_walkCopy_48
theorem DX8_walkCopy_50 : cX8_walkCopy.data.toList.drop 50 = TX8_walkCopy_50 := dr1 DX8_walkCopy_49
theorem DX8_walkCopy_51 : cX8_walkCopy.data.toList.drop 51 = TX8_walkCopy_51 := dr1 DX8_walkCopy_50
theorem DX8_walkCopy_54 : cX8_walkCopy.data.toList.drop 54 = TX8_walkCopy_54 := dr3 DX8_walkCopy_51
theorem DX8_walkCopy_55 : cX8_walkCopy.data.toList.drop 55 = TX8_walkCopy_55 := dr1 DX8_walkCopy_54
theorem DX8_walkCopy_56 : cX8_walkCopy.data.toList.drop 56 = TX8_walkCopy_56 := dr1 DX8_walkCopy_55
theorem DX8_walkCopy_59 : cX8_walkCopy.data.toList.drop 59 = TX8_walkCopy_59 := dr3 DX8_walkCopy_56
theorem DX8_walkCopy_60 : cX8_walkCopy.data.toList.drop 60 = TX8_walkCopy_60 := dr1 DX8_walkCopy_59
theorem DX8_walkCopy_63 : cX8_walkCopy.data.toList.drop 63 = TX8_walkCopy_63 := dr3 DX8_walkCopy_60
theorem DX8_walkCopy_64 : cX8_walkCopy.data.toList.drop 64 = TX8_walkCopy_64 := dr1 DX8_walkCopy_63
theorem DX8_walkCopy_65 : cX8_walkCopy.data.toList.drop 65 = TX8_walkCopy_65 := dr1 DX8_walkCopy_64
theorem DX8_walkCopy_66 : cX8_walkCopy.data.toList.drop 66 = TX8_walkCopy_66 := dr1 DX8_walkCopy_65
theorem DX8_walkCopy_69 : cX8_walkCopy.data.toList.drop 69 = TX8_walkCopy_69 := dr3 DX8_walkCopy_66
theorem DX8_walkCopy_70 : cX8_walkCopy.data.toList.drop 70 = TX8_walkCopy_70 := dr1 DX8_walkCopy_69
theorem DX8_walkCopy_71 : cX8_walkCopy.data.toList.drop 71 = TX8_walkCopy_71 := dr1 DX8_walkCopy_70
theorem DX8_walkCopy_74 : cX8_walkCopy.data.toList.drop 74 = TX8_walkCopy_74 := dr3 DX8_walkCopy_71
theorem DX8_walkCopy_75 : cX8_walkCopy.data.toList.drop 75 = TX8_walkCopy_75 := dr1 DX8_walkCopy_74
theorem DX8_walkCopy_76 : cX8_walkCopy.data.toList.drop 76 = TX8_walkCopy_76 := dr1 DX8_walkCopy_75
theorem DX8_walkCopy_77 : cX8_walkCopy.data.toList.drop 77 = TX8_walkCopy_77 := dr1 DX8_walkCopy_76
theorem DX8_walkCopy_78 : cX8_walkCopy.data.toList.drop 78 = TX8_walkCopy_78 := dr1 DX8_walkCopy_77
theorem DX8_walkCopy_81 : cX8_walkCopy.data.toList.drop 81 = TX8_walkCopy_81 := dr3 DX8_walkCopy_78
theorem DX8_walkCopy_82 : cX8_walkCopy.data.toList.drop 82 = TX8_walkCopy_82 := dr1 DX8_walkCopy_81
theorem DX8_walkCopy_83 : cX8_walkCopy.data.toList.drop 83 = TX8_walkCopy_83 := dr1 DX8_walkCopy_82
theorem DX8_walkCopy_86 : cX8_walkCopy.data.toList.drop 86 = TX8_walkCopy_86 := dr3 DX8_walkCopy_83
theorem DX8_walkCopy_87 : cX8_walkCopy.data.toList.drop 87 = TX8_walkCopy_87 := dr1 DX8_walkCopy_86
theorem DX8_walkCopy_88 : cX8_walkCopy.data.toList.drop 88 = TX8_walkCopy_88 := dr1 DX8_walkCopy_87
theorem DX8_walkCopy_89 : cX8_walkCopy.data.toList.drop 89 = TX8_walkCopy_89 := dr1 DX8_walkCopy_88
theorem DX8_walkCopy_90 : cX8_walkCopy.data.toList.drop 90 = TX8_walkCopy_90 := dr1 DX8_walkCopy_89
theorem DX8_walkCopy_91 : cX8_walkCopy.data.toList.drop 91 = TX8_walkCopy_91 := dr1 DX8_walkCopy_90
theorem DX8_walkCopy_92 : cX8_walkCopy.data.toList.drop 92 = TX8_walkCopy_92 := dr1 DX8_walkCopy_91
theorem DX8_walkCopy_95 : cX8_walkCopy.data.toList.drop 95 = TX8_walkCopy_95 := dr3 DX8_walkCopy_92
theorem DX8_walkCopy_96 : cX8_walkCopy.data.toList.drop 96 = TX8_walkCopy_96 := dr1 DX8_walkCopy_95
theorem DX8_walkCopy_99 : cX8_walkCopy.data.toList.drop 99 = TX8_walkCopy_99 := dr3 DX8_walkCopy_96
theorem DX8_walkCopy_100 : cX8_walkCopy.data.toList.drop 100 = TX8_walkCopy_100 := dr1 DX8_walkCopy_99
theorem DX8_walkCopy_103 : cX8_walkCopy.data.toList.drop 103 = TX8_walkCopy_103 := dr3 DX8_walkCopy_100
theorem dX8_walkCopy_0 : decode cX8_walkCopy 0 = .ok (.aload_n 0, 1) := do_2a DX8_walkCopy_0
theorem dX8_walkCopy_1 : decode cX8_walkCopy 1 = .ok (.iload_n 1, 1) := do_1b DX8_walkCopy_1
theorem dX8_walkCopy_2 : decode cX8_walkCopy 2 = .ok (.invokestatic 145, 3) := do_b8 DX8_walkCopy_2
theorem dX8_walkCopy_5 : decode cX8_walkCopy 5 = .ok (.ifCond .ne 10, 3) := do_9a DX8_walkCopy_5 (by decide +kernel)
theorem dX8_walkCopy_8 : decode cX8_walkCopy 8 = .ok (.iload_n 2, 1) := do_1c DX8_walkCopy_8
theorem dX8_walkCopy_9 : decode cX8_walkCopy 9 = .ok (.invokestatic 145, 3) := do_b8 DX8_walkCopy_9
theorem dX8_walkCopy_12 : decode cX8_walkCopy 12 = .ok (.ifCond .eq 7, 3) := do_99 DX8_walkCopy_12 (by decide +kernel)
theorem dX8_walkCopy_15 : decode cX8_walkCopy 15 = .ok (.iconst 1, 1) := do_04 DX8_walkCopy_15
theorem dX8_walkCopy_16 : decode cX8_walkCopy 16 = .ok (.goto 4, 3) := do_a7 DX8_walkCopy_16 (by decide +kernel)
theorem dX8_walkCopy_19 : decode cX8_walkCopy 19 = .ok (.iconst 0, 1) := do_03 DX8_walkCopy_19
theorem dX8_walkCopy_20 : decode cX8_walkCopy 20 = .ok (.iconst 1, 1) := do_04 DX8_walkCopy_20
theorem dX8_walkCopy_21 : decode cX8_walkCopy 21 = .ok (.invokevirtual 149, 3) := do_b6 DX8_walkCopy_21
theorem dX8_walkCopy_24 : decode cX8_walkCopy 24 = .ok (.ifCond .eq 5, 3) := do_99 DX8_walkCopy_24 (by decide +kernel)
theorem dX8_walkCopy_27 : decode cX8_walkCopy 27 = .ok (.iconst 0, 1) := do_03 DX8_walkCopy_27
theorem dX8_walkCopy_28 : decode cX8_walkCopy 28 = .ok (.ireturn, 1) := do_ac DX8_walkCopy_28
theorem dX8_walkCopy_29 : decode cX8_walkCopy 29 = .ok (.aload_n 0, 1) := do_2a DX8_walkCopy_29
theorem dX8_walkCopy_30 : decode cX8_walkCopy 30 = .ok (.getfield 9, 3) := do_b4 DX8_walkCopy_30
theorem dX8_walkCopy_33 : decode cX8_walkCopy 33 = .ok (.iload_n 1, 1) := do_1b DX8_walkCopy_33
theorem dX8_walkCopy_34 : decode cX8_walkCopy 34 = .ok (.iaload, 1) := do_2e DX8_walkCopy_34
theorem dX8_walkCopy_35 : decode cX8_walkCopy 35 = .ok (.aload_n 0, 1) := do_2a DX8_walkCopy_35
theorem dX8_walkCopy_36 : decode cX8_walkCopy 36 = .ok (.getfield 9, 3) := do_b4 DX8_walkCopy_36
theorem dX8_walkCopy_39 : decode cX8_walkCopy 39 = .ok (.iload_n 2, 1) := do_1c DX8_walkCopy_39
theorem dX8_walkCopy_40 : decode cX8_walkCopy 40 = .ok (.iaload, 1) := do_2e DX8_walkCopy_40
theorem dX8_walkCopy_41 : decode cX8_walkCopy 41 = .ok (.if_icmp .ne 18, 3) := do_a0 DX8_walkCopy_41 (by decide +kernel)
theorem dX8_walkCopy_44 : decode cX8_walkCopy 44 = .ok (.aload_n 0, 1) := do_2a DX8_walkCopy_44
theorem dX8_walkCopy_45 : decode cX8_walkCopy 45 = .ok (.getfield 13, 3) := do_b4 DX8_walkCopy_45
theorem dX8_walkCopy_48 : decode cX8_walkCopy 48 = .ok (.iload_n 1, 1) := do_1b DX8_walkCopy_48
theorem dX8_walkCopy_49 : decode cX8_walkCopy 49 = .ok (.iaload, 1) := do_2e DX8_walkCopy_49
theorem dX8_walkCopy_50 : decode cX8_walkCopy 50 = .ok (.aload_n 0, 1) := do_2a DX8_walkCopy_50
theorem dX8_walkCopy_51 : decode cX8_walkCopy 51 = .ok (.getfield 13, 3) := do_b4 DX8_walkCopy_51
theorem dX8_walkCopy_54 : decode cX8_walkCopy 54 = .ok (.iload_n 2, 1) := do_1c DX8_walkCopy_54
theorem dX8_walkCopy_55 : decode cX8_walkCopy 55 = .ok (.iaload, 1) := do_2e DX8_walkCopy_55
theorem dX8_walkCopy_56 : decode cX8_walkCopy 56 = .ok (.if_icmp .eq 7, 3) := do_9f DX8_walkCopy_56 (by decide +kernel)
theorem dX8_walkCopy_59 : decode cX8_walkCopy 59 = .ok (.iconst 1, 1) := do_04 DX8_walkCopy_59
theorem dX8_walkCopy_60 : decode cX8_walkCopy 60 = .ok (.goto 4, 3) := do_a7 DX8_walkCopy_60 (by decide +kernel)
theorem dX8_walkCopy_63 : decode cX8_walkCopy 63 = .ok (.iconst 0, 1) := do_03 DX8_walkCopy_63
theorem dX8_walkCopy_64 : decode cX8_walkCopy 64 = .ok (.istore_n 3, 1) := do_3e DX8_walkCopy_64
theorem dX8_walkCopy_65 : decode cX8_walkCopy 65 = .ok (.aload_n 0, 1) := do_2a DX8_walkCopy_65
theorem dX8_walkCopy_66 : decode cX8_walkCopy 66 = .ok (.getfield 9, 3) := do_b4 DX8_walkCopy_66
theorem dX8_walkCopy_69 : decode cX8_walkCopy 69 = .ok (.iload_n 2, 1) := do_1c DX8_walkCopy_69
theorem dX8_walkCopy_70 : decode cX8_walkCopy 70 = .ok (.aload_n 0, 1) := do_2a DX8_walkCopy_70
theorem dX8_walkCopy_71 : decode cX8_walkCopy 71 = .ok (.getfield 9, 3) := do_b4 DX8_walkCopy_71
theorem dX8_walkCopy_74 : decode cX8_walkCopy 74 = .ok (.iload_n 1, 1) := do_1b DX8_walkCopy_74
theorem dX8_walkCopy_75 : decode cX8_walkCopy 75 = .ok (.iaload, 1) := do_2e DX8_walkCopy_75
theorem dX8_walkCopy_76 : decode cX8_walkCopy 76 = .ok (.iastore, 1) := do_4f DX8_walkCopy_76
theorem dX8_walkCopy_77 : decode cX8_walkCopy 77 = .ok (.aload_n 0, 1) := do_2a DX8_walkCopy_77
theorem dX8_walkCopy_78 : decode cX8_walkCopy 78 = .ok (.getfield 13, 3) := do_b4 DX8_walkCopy_78
theorem dX8_walkCopy_81 : decode cX8_walkCopy 81 = .ok (.iload_n 2, 1) := do_1c DX8_walkCopy_81
theorem dX8_walkCopy_82 : decode cX8_walkCopy 82 = .ok (.aload_n 0, 1) := do_2a DX8_walkCopy_82
theorem dX8_walkCopy_83 : decode cX8_walkCopy 83 = .ok (.getfield 13, 3) := do_b4 DX8_walkCopy_83
theorem dX8_walkCopy_86 : decode cX8_walkCopy 86 = .ok (.iload_n 1, 1) := do_1b DX8_walkCopy_86
theorem dX8_walkCopy_87 : decode cX8_walkCopy 87 = .ok (.iaload, 1) := do_2e DX8_walkCopy_87
theorem dX8_walkCopy_88 : decode cX8_walkCopy 88 = .ok (.iastore, 1) := do_4f DX8_walkCopy_88
theorem dX8_walkCopy_89 : decode cX8_walkCopy 89 = .ok (.aload_n 0, 1) := do_2a DX8_walkCopy_89
theorem dX8_walkCopy_90 : decode cX8_walkCopy 90 = .ok (.iconst 0, 1) := do_03 DX8_walkCopy_90
theorem dX8_walkCopy_91 : decode cX8_walkCopy 91 = .ok (.iload_n 3, 1) := do_1d DX8_walkCopy_91
theorem dX8_walkCopy_92 : decode cX8_walkCopy 92 = .ok (.ifCond .eq 7, 3) := do_99 DX8_walkCopy_92 (by decide +kernel)
theorem dX8_walkCopy_95 : decode cX8_walkCopy 95 = .ok (.iconst 1, 1) := do_04 DX8_walkCopy_95
theorem dX8_walkCopy_96 : decode cX8_walkCopy 96 = .ok (.goto 4, 3) := do_a7 DX8_walkCopy_96 (by decide +kernel)
theorem dX8_walkCopy_99 : decode cX8_walkCopy 99 = .ok (.iconst 0, 1) := do_03 DX8_walkCopy_99
theorem dX8_walkCopy_100 : decode cX8_walkCopy 100 = .ok (.invokevirtual 155, 3) := do_b6 DX8_walkCopy_100
theorem dX8_walkCopy_103 : decode cX8_walkCopy 103 = .ok (.ireturn, 1) := do_ac DX8_walkCopy_103
def TX8_partOf_62 : List UInt8 := []
def TX8_partOf_61 : List UInt8 := 172 :: TX8_partOf_62
def TX8_partOf_60 : List UInt8 := 46 :: TX8_partOf_61
def TX8_partOf_59 : List UInt8 := 100 :: TX8_partOf_60
def TX8_partOf_58 : List UInt8 := 6 :: TX8_partOf_59
def TX8_partOf_57 : List UInt8 := 28 :: TX8_partOf_58
def TX8_partOf_54 : List UInt8 := 184 :: 0 :: 138 :: TX8_partOf_57
def TX8_partOf_53 : List UInt8 := 46 :: TX8_partOf_54
def TX8_partOf_52 : List UInt8 := 27 :: TX8_partOf_53
def TX8_partOf_49 : List UInt8 := 180 :: 0 :: 13 :: TX8_partOf_52
def TX8_partOf_48 : List UInt8 := 42 :: TX8_partOf_49
def TX8_partOf_47 : List UInt8 := 46 :: TX8_partOf_48
def TX8_partOf_46 : List UInt8 := 27 :: TX8_partOf_47
def TX8_partOf_43 : List UInt8 := 180 :: 0 :: 9 :: TX8_partOf_46
def TX8_partOf_42 : List UInt8 := 42 :: TX8_partOf_43
def TX8_partOf_41 : List UInt8 := 172 :: TX8_partOf_42
def TX8_partOf_38 : List UInt8 := 184 :: 0 :: 130 :: TX8_partOf_41
def TX8_partOf_37 : List UInt8 := 46 :: TX8_partOf_38
def TX8_partOf_36 : List UInt8 := 27 :: TX8_partOf_37
def TX8_partOf_33 : List UInt8 := 180 :: 0 :: 9 :: TX8_partOf_36
def TX8_partOf_32 : List UInt8 := 42 :: TX8_partOf_33
def TX8_partOf_29 : List UInt8 := 167 :: 0 :: 12 :: TX8_partOf_32
def TX8_partOf_28 : List UInt8 := 46 :: TX8_partOf_29
def TX8_partOf_27 : List UInt8 := 27 :: TX8_partOf_28
def TX8_partOf_24 : List UInt8 := 180 :: 0 :: 13 :: TX8_partOf_27
def TX8_partOf_23 : List UInt8 := 42 :: TX8_partOf_24
def TX8_partOf_20 : List UInt8 := 160 :: 0 :: 12 :: TX8_partOf_23
def TX8_partOf_19 : List UInt8 := 4 :: TX8_partOf_20
def TX8_partOf_18 : List UInt8 := 28 :: TX8_partOf_19
def TX8_partOf_15 : List UInt8 := 167 :: 0 :: 26 :: TX8_partOf_18
def TX8_partOf_14 : List UInt8 := 46 :: TX8_partOf_15
def TX8_partOf_13 : List UInt8 := 27 :: TX8_partOf_14
def TX8_partOf_10 : List UInt8 := 180 :: 0 :: 9 :: TX8_partOf_13
def TX8_partOf_9 : List UInt8 := 42 :: TX8_partOf_10
def TX8_partOf_6 : List UInt8 := 154 :: 0 :: 12 :: TX8_partOf_9
def TX8_partOf_5 : List UInt8 := 28 :: TX8_partOf_6
def TX8_partOf_2 : List UInt8 := 162 :: 0 :: 40 :: TX8_partOf_5
def TX8_partOf_1 : List UInt8 := 6 :: TX8_partOf_2
def TX8_partOf_0 : List UInt8 := 28 :: TX8_partOf_1
theorem DX8_partOf_0 : cX8_partOf.data.toList.drop 0 = TX8_partOf_0 := by decide +kernel
theorem DX8_partOf_1 : cX8_partOf.data.toList.drop 1 = TX8_partOf_1 := dr1 DX8_partOf_0
theorem DX8_partOf_2 : cX8_partOf.data.toList.drop 2 = TX8_partOf_2 := dr1 DX8_partOf_1
theorem DX8_partOf_5 : cX8_partOf.data.toList.drop 5 = TX8_partOf_5 := dr3 DX8_partOf_2
theorem DX8_partOf_6 : cX8_partOf.data.toList.drop 6 = TX8_partOf_6 := dr1 DX8_partOf_5
theorem DX8_partOf_9 : cX8_partOf.data.toList.drop 9 = TX8_partOf_9 := dr3 DX8_partOf_6
theorem DX8_partOf_10 : cX8_partOf.data.toList.drop 10 = TX8_partOf_10 := dr1 DX8_partOf_9
theorem DX8_partOf_13 : cX8_partOf.data.toList.drop 13 = TX8_partOf_13 := dr3 DX8_partOf_10
theorem DX8_partOf_14 : cX8_partOf.data.toList.drop 14 = TX8_partOf_14 := dr1 DX8_partOf_13
theorem DX8_partOf_15 : cX8_partOf.data.toList.drop 15 = TX8_partOf_15 := dr1 DX8_partOf_14
theorem DX8_partOf_18 : cX8_partOf.data.toList.drop 18 = TX8_partOf_18 := dr3 DX8_partOf_15
theorem DX8_partOf_19 : cX8_partOf.data.toList.drop 19 = TX8_partOf_19 := dr1 DX8_partOf_18
theorem DX8_partOf_20 : cX8_partOf.data.toList.drop 20 = TX8_partOf_20 := dr1 DX8_partOf_19
theorem DX8_partOf_23 : cX8_partOf.data.toList.drop 23 = TX8_partOf_23 := dr3 DX8_partOf_20
theorem DX8_partOf_24 : cX8_partOf.data.toList.drop 24 = TX8_partOf_24 := dr1 DX8_partOf_23
theorem DX8_partOf_27 : cX8_partOf.data.toList.drop 27 = TX8_partOf_27 := dr3 DX8_partOf_24
theorem DX8_partOf_28 : cX8_partOf.data.toList.drop 28 = TX8_partOf_28 := dr1 DX8_partOf_27
theorem DX8_partOf_29 : cX8_partOf.data.toList.drop 29 = TX8_partOf_29 := dr1 DX8_partOf_28
theorem DX8_partOf_32 : cX8_partOf.data.toList.drop 32 = TX8_partOf_32 := dr3 DX8_partOf_29
theorem DX8_partOf_33 : cX8_partOf.data.toList.drop 33 = TX8_partOf_33 := dr1 DX8_partOf_32
theorem DX8_partOf_36 : cX8_partOf.data.toList.drop 36 = TX8_partOf_36 := dr3 DX8_partOf_33
theorem DX8_partOf_37 : cX8_partOf.data.toList.drop 37 = TX8_partOf_37 := dr1 DX8_partOf_36
theorem DX8_partOf_38 : cX8_partOf.data.toList.drop 38 = TX8_partOf_38 := dr1 DX8_partOf_37
theorem DX8_partOf_41 : cX8_partOf.data.toList.drop 41 = TX8_partOf_41 := dr3 DX8_partOf_38
theorem DX8_partOf_42 : cX8_partOf.data.toList.drop 42 = TX8_partOf_42 := dr1 DX8_partOf_41
theorem DX8_partOf_43 : cX8_partOf.data.toList.drop 43 = TX8_partOf_43 := dr1 DX8_partOf_42
theorem DX8_partOf_46 : cX8_partOf.data.toList.drop 46 = TX8_partOf_46 := dr3 DX8_partOf_43
theorem DX8_partOf_47 : cX8_partOf.data.toList.drop 47 = TX8_partOf_47 := dr1 DX8_partOf_46
theorem DX8_partOf_48 : cX8_partOf.data.toList.drop 48 = TX8_partOf_48 := dr1 DX8_partOf_47
theorem DX8_partOf_49 : cX8_partOf.data.toList.drop 49 = TX8_partOf_49 := dr1 DX8_partOf_48
theorem DX8_partOf_52 : cX8_partOf.data.toList.drop 52 = TX8_partOf_52 := dr3 DX8_partOf_49
theorem DX8_partOf_53 : cX8_partOf.data.toList.drop 53 = TX8_partOf_53 := dr1 DX8_partOf_52
theorem DX8_partOf_54 : cX8_partOf.data.toList.drop 54 = TX8_partOf_54 := dr1 DX8_partOf_53
theorem DX8_partOf_57 : cX8_partOf.data.toList.drop 57 = TX8_partOf_57 := dr3 DX8_partOf_54
theorem DX8_partOf_58 : cX8_partOf.data.toList.drop 58 = TX8_partOf_58 := dr1 DX8_partOf_57
theorem DX8_partOf_59 : cX8_partOf.data.toList.drop 59 = TX8_partOf_59 := dr1 DX8_partOf_58
theorem DX8_partOf_60 : cX8_partOf.data.toList.drop 60 = TX8_partOf_60 := dr1 DX8_partOf_59
theorem DX8_partOf_61 : cX8_partOf.data.toList.drop 61 = TX8_partOf_61 := dr1 DX8_partOf_60
theorem dX8_partOf_0 : decode cX8_partOf 0 = .ok (.iload_n 2, 1) := do_1c DX8_partOf_0
theorem dX8_partOf_1 : decode cX8_partOf 1 = .ok (.iconst 3, 1) := do_06 DX8_partOf_1
theorem dX8_partOf_2 : decode cX8_partOf 2 = .ok (.if_icmp .ge 40, 3) := do_a2 DX8_partOf_2 (by decide +kernel)
theorem dX8_partOf_5 : decode cX8_partOf 5 = .ok (.iload_n 2, 1) := do_1c DX8_partOf_5
theorem dX8_partOf_6 : decode cX8_partOf 6 = .ok (.ifCond .ne 12, 3) := do_9a DX8_partOf_6 (by decide +kernel)
theorem dX8_partOf_9 : decode cX8_partOf 9 = .ok (.aload_n 0, 1) := do_2a DX8_partOf_9
theorem dX8_partOf_10 : decode cX8_partOf 10 = .ok (.getfield 9, 3) := do_b4 DX8_partOf_10
theorem dX8_partOf_13 : decode cX8_partOf 13 = .ok (.iload_n 1, 1) := do_1b DX8_partOf_13
theorem dX8_partOf_14 : decode cX8_partOf 14 = .ok (.iaload, 1) := do_2e DX8_partOf_14
theorem dX8_partOf_15 : decode cX8_partOf 15 = .ok (.goto 26, 3) := do_a7 DX8_partOf_15 (by decide +kernel)
theorem dX8_partOf_18 : decode cX8_partOf 18 = .ok (.iload_n 2, 1) := do_1c DX8_partOf_18
theorem dX8_partOf_19 : decode cX8_partOf 19 = .ok (.iconst 1, 1) := do_04 DX8_partOf_19
theorem dX8_partOf_20 : decode cX8_partOf 20 = .ok (.if_icmp .ne 12, 3) := do_a0 DX8_partOf_20 (by decide +kernel)
theorem dX8_partOf_23 : decode cX8_partOf 23 = .ok (.aload_n 0, 1) := do_2a DX8_partOf_23
theorem dX8_partOf_24 : decode cX8_partOf 24 = .ok (.getfield 13, 3) := do_b4 DX8_partOf_24
theorem dX8_partOf_27 : decode cX8_partOf 27 = .ok (.iload_n 1, 1) := do_1b DX8_partOf_27
theorem dX8_partOf_28 : decode cX8_partOf 28 = .ok (.iaload, 1) := do_2e DX8_partOf_28
theorem dX8_partOf_29 : decode cX8_partOf 29 = .ok (.goto 12, 3) := do_a7 DX8_partOf_29 (by decide +kernel)
theorem dX8_partOf_32 : decode cX8_partOf 32 = .ok (.aload_n 0, 1) := do_2a DX8_partOf_32
theorem dX8_partOf_33 : decode cX8_partOf 33 = .ok (.getfield 9, 3) := do_b4 DX8_partOf_33
theorem dX8_partOf_36 : decode cX8_partOf 36 = .ok (.iload_n 1, 1) := do_1b DX8_partOf_36
theorem dX8_partOf_37 : decode cX8_partOf 37 = .ok (.iaload, 1) := do_2e DX8_partOf_37
theorem dX8_partOf_38 : decode cX8_partOf 38 = .ok (.invokestatic 130, 3) := do_b8 DX8_partOf_38
theorem dX8_partOf_41 : decode cX8_partOf 41 = .ok (.ireturn, 1) := do_ac DX8_partOf_41
theorem dX8_partOf_42 : decode cX8_partOf 42 = .ok (.aload_n 0, 1) := do_2a DX8_partOf_42
theorem dX8_partOf_43 : decode cX8_partOf 43 = .ok (.getfield 9, 3) := do_b4 DX8_partOf_43
theorem dX8_partOf_46 : decode cX8_partOf 46 = .ok (.iload_n 1, 1) := do_1b DX8_partOf_46
theorem dX8_partOf_47 : decode cX8_partOf 47 = .ok (.iaload, 1) := do_2e DX8_partOf_47
theorem dX8_partOf_48 : decode cX8_partOf 48 = .ok (.aload_n 0, 1) := do_2a DX8_partOf_48
theorem dX8_partOf_49 : decode cX8_partOf 49 = .ok (.getfield 13, 3) := do_b4 DX8_partOf_49
theorem dX8_partOf_52 : decode cX8_partOf 52 = .ok (.iload_n 1, 1) := do_1b DX8_partOf_52
theorem dX8_partOf_53 : decode cX8_partOf 53 = .ok (.iaload, 1) := do_2e DX8_partOf_53
theorem dX8_partOf_54 : decode cX8_partOf 54 = .ok (.invokestatic 138, 3) := do_b8 DX8_partOf_54
theorem dX8_partOf_57 : decode cX8_partOf 57 = .ok (.iload_n 2, 1) := do_1c DX8_partOf_57
theorem dX8_partOf_58 : decode cX8_partOf 58 = .ok (.iconst 3, 1) := do_06 DX8_partOf_58
theorem dX8_partOf_59 : decode cX8_partOf 59 = .ok (.isub, 1) := do_64 DX8_partOf_59
theorem dX8_partOf_60 : decode cX8_partOf 60 = .ok (.iaload, 1) := do_2e DX8_partOf_60
theorem dX8_partOf_61 : decode cX8_partOf 61 = .ok (.ireturn, 1) := do_ac DX8_partOf_61
def TX8_part_45 : List UInt8 := []
def TX8_part_44 : List UInt8 := 172 :: TX8_part_45
def TX8_part_41 : List UInt8 := 182 :: 0 :: 162 :: TX8_part_44
def TX8_part_40 : List UInt8 := 28 :: TX8_part_41
def TX8_part_39 : List UInt8 := 27 :: TX8_part_40
def TX8_part_38 : List UInt8 := 42 :: TX8_part_39
def TX8_part_35 : List UInt8 := 167 :: 0 :: 9 :: TX8_part_38
def TX8_part_34 : List UInt8 := 3 :: TX8_part_35
def TX8_part_31 : List UInt8 := 153 :: 0 :: 7 :: TX8_part_34
def TX8_part_28 : List UInt8 := 182 :: 0 :: 45 :: TX8_part_31
def TX8_part_27 : List UInt8 := 5 :: TX8_part_28
def TX8_part_26 : List UInt8 := 3 :: TX8_part_27
def TX8_part_23 : List UInt8 := 167 :: 0 :: 4 :: TX8_part_26
def TX8_part_22 : List UInt8 := 4 :: TX8_part_23
def TX8_part_19 : List UInt8 := 154 :: 0 :: 7 :: TX8_part_22
def TX8_part_16 : List UInt8 := 184 :: 0 :: 49 :: TX8_part_19
def TX8_part_15 : List UInt8 := 8 :: TX8_part_16
def TX8_part_14 : List UInt8 := 3 :: TX8_part_15
def TX8_part_13 : List UInt8 := 28 :: TX8_part_14
def TX8_part_12 : List UInt8 := 42 :: TX8_part_13
def TX8_part_9 : List UInt8 := 154 :: 0 :: 25 :: TX8_part_12
def TX8_part_6 : List UInt8 := 182 :: 0 :: 149 :: TX8_part_9
def TX8_part_5 : List UInt8 := 4 :: TX8_part_6
def TX8_part_2 : List UInt8 := 184 :: 0 :: 145 :: TX8_part_5
def TX8_part_1 : List UInt8 := 27 :: TX8_part_2
def TX8_part_0 : List UInt8 := 42 :: TX8_part_1
theorem DX8_part_0 : cX8_part.data.toList.drop 0 = TX8_part_0 := by decide +kernel
theorem DX8_part_1 : cX8_part.data.toList.drop 1 = TX8_part_1 := dr1 DX8_part_0
theorem DX8_part_2 : cX8_part.data.toList.drop 2 = TX8_part_2 := dr1 DX8_part_1
theorem DX8_part_5 : cX8_part.data.toList.drop 5 = TX8_part_5 := dr3 DX8_part_2
theorem DX8_part_6 : cX8_part.data.toList.drop 6 = TX8_part_6 := dr1 DX8_part_5
theorem DX8_part_9 : cX8_part.data.toList.drop 9 = TX8_part_9 := dr3 DX8_part_6
theorem DX8_part_12 : cX8_part.data.toList.drop 12 = TX8_part_12 := dr3 DX8_part_9
theorem DX8_part_13 : cX8_part.data.toList.drop 13 = TX8_part_13 := dr1 DX8_part_12
theorem DX8_part_14 : cX8_part.data.toList.drop 14 = TX8_part_14 := dr1 DX8_part_13
theorem DX8_part_15 : cX8_part.data.toList.drop 15 = TX8_part_15 := dr1 DX8_part_14
theorem DX8_part_16 : cX8_part.data.toList.drop 16 = TX8_part_16 := dr1 DX8_part_15
theorem DX8_part_19 : cX8_part.data.toList.drop 19 = TX8_part_19 := dr3 DX8_part_16
theorem DX8_part_22 : cX8_part.data.toList.drop 22 = TX8_part_22 := dr3 DX8_part_19
theorem DX8_part_23 : cX8_part.data.toList.drop 23 = TX8_part_23 := dr1 DX8_part_22
theorem DX8_part_26 : cX8_part.data.toList.drop 26 = TX8_part_26 := dr3 DX8_part_23
theorem DX8_part_27 : cX8_part.data.toList.drop 27 = TX8_part_27 := dr1 DX8_part_26
theorem DX8_part_28 : cX8_part.data.toList.drop 28 = TX8_part_28 := dr1 DX8_part_27
theorem DX8_part_31 : cX8_part.data.toList.drop 31 = TX8_part_31 := dr3 DX8_part_28
theorem DX8_part_34 : cX8_part.data.toList.drop 34 = TX8_part_34 := dr3 DX8_part_31
theorem DX8_part_35 : cX8_part.data.toList.drop 35 = TX8_part_35 := dr1 DX8_part_34
theorem DX8_part_38 : cX8_part.data.toList.drop 38 = TX8_part_38 := dr3 DX8_part_35
theorem DX8_part_39 : cX8_part.data.toList.drop 39 = TX8_part_39 := dr1 DX8_part_38
theorem DX8_part_40 : cX8_part.data.toList.drop 40 = TX8_part_40 := dr1 DX8_part_39
theorem DX8_part_41 : cX8_part.data.toList.drop 41 = TX8_part_41 := dr1 DX8_part_40
theorem DX8_part_44 : cX8_part.data.toList.drop 44 = TX8_part_44 := dr3 DX8_part_41
theorem dX8_part_0 : decode cX8_part 0 = .ok (.aload_n 0, 1) := do_2a DX8_part_0
theorem dX8_part_1 : decode cX8_part 1 = .ok (.iload_n 1, 1) := do_1b DX8_part_1
theorem dX8_part_2 : decode cX8_part 2 = .ok (.invokestatic 145, 3) := do_b8 DX8_part_2
theorem dX8_part_5 : decode cX8_part 5 = .ok (.iconst 1, 1) := do_04 DX8_part_5
theorem dX8_part_6 : decode cX8_part 6 = .ok (.invokevirtual 149, 3) := do_b6 DX8_part_6
theorem dX8_part_9 : decode cX8_part 9 = .ok (.ifCond .ne 25, 3) := do_9a DX8_part_9 (by decide +kernel)
theorem dX8_part_12 : decode cX8_part 12 = .ok (.aload_n 0, 1) := do_2a DX8_part_12
theorem dX8_part_13 : decode cX8_part 13 = .ok (.iload_n 2, 1) := do_1c DX8_part_13
theorem dX8_part_14 : decode cX8_part 14 = .ok (.iconst 0, 1) := do_03 DX8_part_14
theorem dX8_part_15 : decode cX8_part 15 = .ok (.iconst 5, 1) := do_08 DX8_part_15
theorem dX8_part_16 : decode cX8_part 16 = .ok (.invokestatic 49, 3) := do_b8 DX8_part_16
theorem dX8_part_19 : decode cX8_part 19 = .ok (.ifCond .ne 7, 3) := do_9a DX8_part_19 (by decide +kernel)
theorem dX8_part_22 : decode cX8_part 22 = .ok (.iconst 1, 1) := do_04 DX8_part_22
theorem dX8_part_23 : decode cX8_part 23 = .ok (.goto 4, 3) := do_a7 DX8_part_23 (by decide +kernel)
theorem dX8_part_26 : decode cX8_part 26 = .ok (.iconst 0, 1) := do_03 DX8_part_26
theorem dX8_part_27 : decode cX8_part 27 = .ok (.iconst 2, 1) := do_05 DX8_part_27
theorem dX8_part_28 : decode cX8_part 28 = .ok (.invokevirtual 45, 3) := do_b6 DX8_part_28
theorem dX8_part_31 : decode cX8_part 31 = .ok (.ifCond .eq 7, 3) := do_99 DX8_part_31 (by decide +kernel)
theorem dX8_part_34 : decode cX8_part 34 = .ok (.iconst 0, 1) := do_03 DX8_part_34
theorem dX8_part_35 : decode cX8_part 35 = .ok (.goto 9, 3) := do_a7 DX8_part_35 (by decide +kernel)
theorem dX8_part_38 : decode cX8_part 38 = .ok (.aload_n 0, 1) := do_2a DX8_part_38
theorem dX8_part_39 : decode cX8_part 39 = .ok (.iload_n 1, 1) := do_1b DX8_part_39
theorem dX8_part_40 : decode cX8_part 40 = .ok (.iload_n 2, 1) := do_1c DX8_part_40
theorem dX8_part_41 : decode cX8_part 41 = .ok (.invokevirtual 162, 3) := do_b6 DX8_part_41
theorem dX8_part_44 : decode cX8_part 44 = .ok (.ireturn, 1) := do_ac DX8_part_44
def TX8_walkText_59 : List UInt8 := []
def TX8_walkText_58 : List UInt8 := 176 :: TX8_walkText_59
def TX8_walkText_55 : List UInt8 := 184 :: 0 :: 171 :: TX8_walkText_58
def TX8_walkText_54 : List UInt8 := 29 :: TX8_walkText_55
def TX8_walkText_53 : List UInt8 := 50 :: TX8_walkText_54
def TX8_walkText_52 : List UInt8 := 28 :: TX8_walkText_53
def TX8_walkText_49 : List UInt8 := 182 :: 0 :: 167 :: TX8_walkText_52
def TX8_walkText_48 : List UInt8 := 27 :: TX8_walkText_49
def TX8_walkText_47 : List UInt8 := 42 :: TX8_walkText_48
def TX8_walkText_46 : List UInt8 := 176 :: TX8_walkText_47
def TX8_walkText_44 : List UInt8 := 18 :: 165 :: TX8_walkText_46
def TX8_walkText_41 : List UInt8 := 153 :: 0 :: 6 :: TX8_walkText_44
def TX8_walkText_38 : List UInt8 := 182 :: 0 :: 45 :: TX8_walkText_41
def TX8_walkText_37 : List UInt8 := 5 :: TX8_walkText_38
def TX8_walkText_36 : List UInt8 := 3 :: TX8_walkText_37
def TX8_walkText_33 : List UInt8 := 167 :: 0 :: 4 :: TX8_walkText_36
def TX8_walkText_32 : List UInt8 := 4 :: TX8_walkText_33
def TX8_walkText_29 : List UInt8 := 154 :: 0 :: 7 :: TX8_walkText_32
def TX8_walkText_26 : List UInt8 := 184 :: 0 :: 49 :: TX8_walkText_29
def TX8_walkText_24 : List UInt8 := 16 :: 16 :: TX8_walkText_26
def TX8_walkText_23 : List UInt8 := 5 :: TX8_walkText_24
def TX8_walkText_22 : List UInt8 := 29 :: TX8_walkText_23
def TX8_walkText_19 : List UInt8 := 153 :: 0 :: 13 :: TX8_walkText_22
def TX8_walkText_16 : List UInt8 := 184 :: 0 :: 49 :: TX8_walkText_19
def TX8_walkText_15 : List UInt8 := 6 :: TX8_walkText_16
def TX8_walkText_14 : List UInt8 := 3 :: TX8_walkText_15
def TX8_walkText_13 : List UInt8 := 28 :: TX8_walkText_14
def TX8_walkText_12 : List UInt8 := 42 :: TX8_walkText_13
def TX8_walkText_9 : List UInt8 := 154 :: 0 :: 35 :: TX8_walkText_12
def TX8_walkText_6 : List UInt8 := 182 :: 0 :: 149 :: TX8_walkText_9
def TX8_walkText_5 : List UInt8 := 4 :: TX8_walkText_6
def TX8_walkText_2 : List UInt8 := 184 :: 0 :: 145 :: TX8_walkText_5
def TX8_walkText_1 : List UInt8 := 27 :: TX8_walkText_2
def TX8_walkText_0 : List UInt8 := 42 :: TX8_walkText_1
theorem DX8_walkText_0 : cX8_walkText.data.toList.drop 0 = TX8_walkText_0 := by decide +kernel
theorem DX8_walkText_1 : cX8_walkText.data.toList.drop 1 = TX8_walkText_1 := dr1 DX8_walkText_0
theorem DX8_walkText_2 : cX8_walkText.data.toList.drop 2 = TX8_walkText_2 := dr1 DX8_walkText_1
theorem DX8_walkText_5 : cX8_walkText.data.toList.drop 5 = TX8_walkText_5 := dr3 DX8_walkText_2
theorem DX8_walkText_6 : cX8_walkText.data.toList.drop 6 = TX8_walkText_6 := dr1 DX8_walkText_5
theorem DX8_walkText_9 : cX8_walkText.data.toList.drop 9 = TX8_walkText_9 := dr3 DX8_walkText_6
theorem DX8_walkText_12 : cX8_walkText.data.toList.drop 12 = TX8_walkText_12 := dr3 DX8_walkText_9
theorem DX8_walkText_13 : cX8_walkText.data.toList.drop 13 = TX8_walkText_13 := dr1 DX8_walkText_12
theorem DX8_walkText_14 : cX8_walkText.data.toList.drop 14 = TX8_walkText_14 := dr1 DX8_walkText_13
theorem DX8_walkText_15 : cX8_walkText.data.toList.drop 15 = TX8_walkText_15 := dr1 DX8_walkText_14
theorem DX8_walkText_16 : cX8_walkText.data.toList.drop 16 = TX8_walkText_16 := dr1 DX8_walkText_15
theorem DX8_walkText_19 : cX8_walkText.data.toList.drop 19 = TX8_walkText_19 := dr3 DX8_walkText_16
theorem DX8_walkText_22 : cX8_walkText.data.toList.drop 22 = TX8_walkText_22 := dr3 DX8_walkText_19
theorem DX8_walkText_23 : cX8_walkText.data.toList.drop 23 = TX8_walkText_23 := dr1 DX8_walkText_22
theorem DX8_walkText_24 : cX8_walkText.data.toList.drop 24 = TX8_walkText_24 := dr1 DX8_walkText_23
theorem DX8_walkText_26 : cX8_walkText.data.toList.drop 26 = TX8_walkText_26 := dr2 DX8_walkText_24
theorem DX8_walkText_29 : cX8_walkText.data.toList.drop 29 = TX8_walkText_29 := dr3 DX8_walkText_26
theorem DX8_walkText_32 : cX8_walkText.data.toList.drop 32 = TX8_walkText_32 := dr3 DX8_walkText_29
theorem DX8_walkText_33 : cX8_walkText.data.toList.drop 33 = TX8_walkText_33 := dr1 DX8_walkText_32
theorem DX8_walkText_36 : cX8_walkText.data.toList.drop 36 = TX8_walkText_36 := dr3 DX8_walkText_33
theorem DX8_walkText_37 : cX8_walkText.data.toList.drop 37 = TX8_walkText_37 := dr1 DX8_walkText_36
theorem DX8_walkText_38 : cX8_walkText.data.toList.drop 38 = TX8_walkText_38 := dr1 DX8_walkText_37
theorem DX8_walkText_41 : cX8_walkText.data.toList.drop 41 = TX8_walkText_41 := dr3 DX8_walkText_38
theorem DX8_walkText_44 : cX8_walkText.data.toList.drop 44 = TX8_walkText_44 := dr3 DX8_walkText_41
theorem DX8_walkText_46 : cX8_walkText.data.toList.drop 46 = TX8_walkText_46 := dr2 DX8_walkText_44
theorem DX8_walkText_47 : cX8_walkText.data.toList.drop 47 = TX8_walkText_47 := dr1 DX8_walkText_46
theorem DX8_walkText_48 : cX8_walkText.data.toList.drop 48 = TX8_walkText_48 := dr1 DX8_walkText_47
theorem DX8_walkText_49 : cX8_walkText.data.toList.drop 49 = TX8_walkText_49 := dr1 DX8_walkText_48
theorem DX8_walkText_52 : cX8_walkText.data.toList.drop 52 = TX8_walkText_52 := dr3 DX8_walkText_49
theorem DX8_walkText_53 : cX8_walkText.data.toList.drop 53 = TX8_walkText_53 := dr1 DX8_walkText_52
theorem DX8_walkText_54 : cX8_walkText.data.toList.drop 54 = TX8_walkText_54 := dr1 DX8_walkText_53
theorem DX8_walkText_55 : cX8_walkText.data.toList.drop 55 = TX8_walkText_55 := dr1 DX8_walkText_54
theorem DX8_walkText_58 : cX8_walkText.data.toList.drop 58 = TX8_walkText_58 := dr3 DX8_walkText_55
theorem dX8_walkText_0 : decode cX8_walkText 0 = .ok (.aload_n 0, 1) := do_2a DX8_walkText_0
theorem dX8_walkText_1 : decode cX8_walkText 1 = .ok (.iload_n 1, 1) := do_1b DX8_walkText_1
theorem dX8_walkText_2 : decode cX8_walkText 2 = .ok (.invokestatic 145, 3) := do_b8 DX8_walkText_2
theorem dX8_walkText_5 : decode cX8_walkText 5 = .ok (.iconst 1, 1) := do_04 DX8_walkText_5
theorem dX8_walkText_6 : decode cX8_walkText 6 = .ok (.invokevirtual 149, 3) := do_b6 DX8_walkText_6
theorem dX8_walkText_9 : decode cX8_walkText 9 = .ok (.ifCond .ne 35, 3) := do_9a DX8_walkText_9 (by decide +kernel)
theorem dX8_walkText_12 : decode cX8_walkText 12 = .ok (.aload_n 0, 1) := do_2a DX8_walkText_12
theorem dX8_walkText_13 : decode cX8_walkText 13 = .ok (.iload_n 2, 1) := do_1c DX8_walkText_13
theorem dX8_walkText_14 : decode cX8_walkText 14 = .ok (.iconst 0, 1) := do_03 DX8_walkText_14
theorem dX8_walkText_15 : decode cX8_walkText 15 = .ok (.iconst 3, 1) := do_06 DX8_walkText_15
theorem dX8_walkText_16 : decode cX8_walkText 16 = .ok (.invokestatic 49, 3) := do_b8 DX8_walkText_16
theorem dX8_walkText_19 : decode cX8_walkText 19 = .ok (.ifCond .eq 13, 3) := do_99 DX8_walkText_19 (by decide +kernel)
theorem dX8_walkText_22 : decode cX8_walkText 22 = .ok (.iload_n 3, 1) := do_1d DX8_walkText_22
theorem dX8_walkText_23 : decode cX8_walkText 23 = .ok (.iconst 2, 1) := do_05 DX8_walkText_23
theorem dX8_walkText_24 : decode cX8_walkText 24 = .ok (.bipush 16, 2) := do_10 DX8_walkText_24 (by decide +kernel)
theorem dX8_walkText_26 : decode cX8_walkText 26 = .ok (.invokestatic 49, 3) := do_b8 DX8_walkText_26
theorem dX8_walkText_29 : decode cX8_walkText 29 = .ok (.ifCond .ne 7, 3) := do_9a DX8_walkText_29 (by decide +kernel)
theorem dX8_walkText_32 : decode cX8_walkText 32 = .ok (.iconst 1, 1) := do_04 DX8_walkText_32
theorem dX8_walkText_33 : decode cX8_walkText 33 = .ok (.goto 4, 3) := do_a7 DX8_walkText_33 (by decide +kernel)
theorem dX8_walkText_36 : decode cX8_walkText 36 = .ok (.iconst 0, 1) := do_03 DX8_walkText_36
theorem dX8_walkText_37 : decode cX8_walkText 37 = .ok (.iconst 2, 1) := do_05 DX8_walkText_37
theorem dX8_walkText_38 : decode cX8_walkText 38 = .ok (.invokevirtual 45, 3) := do_b6 DX8_walkText_38
theorem dX8_walkText_41 : decode cX8_walkText 41 = .ok (.ifCond .eq 6, 3) := do_99 DX8_walkText_41 (by decide +kernel)
theorem dX8_walkText_44 : decode cX8_walkText 44 = .ok (.ldc 165, 2) := by decide +kernel
theorem dX8_walkText_46 : decode cX8_walkText 46 = .ok (.areturn, 1) := do_b0 DX8_walkText_46
theorem dX8_walkText_47 : decode cX8_walkText 47 = .ok (.aload_n 0, 1) := do_2a DX8_walkText_47
theorem dX8_walkText_48 : decode cX8_walkText 48 = .ok (.iload_n 1, 1) := do_1b DX8_walkText_48
theorem dX8_walkText_49 : decode cX8_walkText 49 = .ok (.invokevirtual 167, 3) := do_b6 DX8_walkText_49
theorem dX8_walkText_52 : decode cX8_walkText 52 = .ok (.iload_n 2, 1) := do_1c DX8_walkText_52
theorem dX8_walkText_53 : decode cX8_walkText 53 = .ok (.aaload, 1) := do_32 DX8_walkText_53
theorem dX8_walkText_54 : decode cX8_walkText 54 = .ok (.iload_n 3, 1) := do_1d DX8_walkText_54
theorem dX8_walkText_55 : decode cX8_walkText 55 = .ok (.invokestatic 171, 3) := do_b8 DX8_walkText_55
theorem dX8_walkText_58 : decode cX8_walkText 58 = .ok (.areturn, 1) := do_b0 DX8_walkText_58
def TX8_wide_26 : List UInt8 := []
def TX8_wide_25 : List UInt8 := 176 :: TX8_wide_26
def TX8_wide_24 : List UInt8 := 44 :: TX8_wide_25
def TX8_wide_21 : List UInt8 := 167 :: 255 :: 241 :: TX8_wide_24
def TX8_wide_18 : List UInt8 := 132 :: 3 :: 1 :: TX8_wide_21
def TX8_wide_17 : List UInt8 := 79 :: TX8_wide_18
def TX8_wide_16 : List UInt8 := 46 :: TX8_wide_17
def TX8_wide_15 : List UInt8 := 29 :: TX8_wide_16
def TX8_wide_14 : List UInt8 := 42 :: TX8_wide_15
def TX8_wide_13 : List UInt8 := 29 :: TX8_wide_14
def TX8_wide_12 : List UInt8 := 44 :: TX8_wide_13
def TX8_wide_9 : List UInt8 := 162 :: 0 :: 15 :: TX8_wide_12
def TX8_wide_8 : List UInt8 := 190 :: TX8_wide_9
def TX8_wide_7 : List UInt8 := 42 :: TX8_wide_8
def TX8_wide_6 : List UInt8 := 29 :: TX8_wide_7
def TX8_wide_5 : List UInt8 := 62 :: TX8_wide_6
def TX8_wide_4 : List UInt8 := 3 :: TX8_wide_5
def TX8_wide_3 : List UInt8 := 77 :: TX8_wide_4
def TX8_wide_1 : List UInt8 := 188 :: 10 :: TX8_wide_3
def TX8_wide_0 : List UInt8 := 27 :: TX8_wide_1
theorem DX8_wide_0 : cX8_wide.data.toList.drop 0 = TX8_wide_0 := by decide +kernel
theorem DX8_wide_1 : cX8_wide.data.toList.drop 1 = TX8_wide_1 := dr1 DX8_wide_0
theorem DX8_wide_3 : cX8_wide.data.toList.drop 3 = TX8_wide_3 := dr2 DX8_wide_1
theorem DX8_wide_4 : cX8_wide.data.toList.drop 4 = TX8_wide_4 := dr1 DX8_wide_3
theorem DX8_wide_5 : cX8_wide.data.toList.drop 5 = TX8_wide_5 := dr1 DX8_wide_4
theorem DX8_wide_6 : cX8_wide.data.toList.drop 6 = TX8_wide_6 := dr1 DX8_wide_5
theorem DX8_wide_7 : cX8_wide.data.toList.drop 7 = TX8_wide_7 := dr1 DX8_wide_6
theorem DX8_wide_8 : cX8_wide.data.toList.drop 8 = TX8_wide_8 := dr1 DX8_wide_7
theorem DX8_wide_9 : cX8_wide.data.toList.drop 9 = TX8_wide_9 := dr1 DX8_wide_8
theorem DX8_wide_12 : cX8_wide.data.toList.drop 12 = TX8_wide_12 := dr3 DX8_wide_9
theorem DX8_wide_13 : cX8_wide.data.toList.drop 13 = TX8_wide_13 := dr1 DX8_wide_12
theorem DX8_wide_14 : cX8_wide.data.toList.drop 14 = TX8_wide_14 := dr1 DX8_wide_13
theorem DX8_wide_15 : cX8_wide.data.toList.drop 15 = TX8_wide_15 := dr1 DX8_wide_14
theorem DX8_wide_16 : cX8_wide.data.toList.drop 16 = TX8_wide_16 := dr1 DX8_wide_15
theorem DX8_wide_17 : cX8_wide.data.toList.drop 17 = TX8_wide_17 := dr1 DX8_wide_16
theorem DX8_wide_18 : cX8_wide.data.toList.drop 18 = TX8_wide_18 := dr1 DX8_wide_17
theorem DX8_wide_21 : cX8_wide.data.toList.drop 21 = TX8_wide_21 := dr3 DX8_wide_18
theorem DX8_wide_24 : cX8_wide.data.toList.drop 24 = TX8_wide_24 := dr3 DX8_wide_21
theorem DX8_wide_25 : cX8_wide.data.toList.drop 25 = TX8_wide_25 := dr1 DX8_wide_24
theorem dX8_wide_0 : decode cX8_wide 0 = .ok (.iload_n 1, 1) := do_1b DX8_wide_0
theorem dX8_wide_1 : decode cX8_wide 1 = .ok (.newarray .int, 2) := by decide +kernel
theorem dX8_wide_3 : decode cX8_wide 3 = .ok (.astore_n 2, 1) := do_4d DX8_wide_3
theorem dX8_wide_4 : decode cX8_wide 4 = .ok (.iconst 0, 1) := do_03 DX8_wide_4
theorem dX8_wide_5 : decode cX8_wide 5 = .ok (.istore_n 3, 1) := do_3e DX8_wide_5
theorem dX8_wide_6 : decode cX8_wide 6 = .ok (.iload_n 3, 1) := do_1d DX8_wide_6
theorem dX8_wide_7 : decode cX8_wide 7 = .ok (.aload_n 0, 1) := do_2a DX8_wide_7
theorem dX8_wide_8 : decode cX8_wide 8 = .ok (.arraylength, 1) := do_be DX8_wide_8
theorem dX8_wide_9 : decode cX8_wide 9 = .ok (.if_icmp .ge 15, 3) := do_a2 DX8_wide_9 (by decide +kernel)
theorem dX8_wide_12 : decode cX8_wide 12 = .ok (.aload_n 2, 1) := do_2c DX8_wide_12
theorem dX8_wide_13 : decode cX8_wide 13 = .ok (.iload_n 3, 1) := do_1d DX8_wide_13
theorem dX8_wide_14 : decode cX8_wide 14 = .ok (.aload_n 0, 1) := do_2a DX8_wide_14
theorem dX8_wide_15 : decode cX8_wide 15 = .ok (.iload_n 3, 1) := do_1d DX8_wide_15
theorem dX8_wide_16 : decode cX8_wide 16 = .ok (.iaload, 1) := do_2e DX8_wide_16
theorem dX8_wide_17 : decode cX8_wide 17 = .ok (.iastore, 1) := do_4f DX8_wide_17
theorem dX8_wide_18 : decode cX8_wide 18 = .ok (.iinc 3 1, 3) := do_84 DX8_wide_18
theorem dX8_wide_21 : decode cX8_wide 21 = .ok (.goto (-15), 3) := do_a7 DX8_wide_21 (by decide +kernel)
theorem dX8_wide_24 : decode cX8_wide 24 = .ok (.aload_n 2, 1) := do_2c DX8_wide_24
theorem dX8_wide_25 : decode cX8_wide 25 = .ok (.areturn, 1) := do_b0 DX8_wide_25
def TX8_divisor_166 : List UInt8 := []
def TX8_divisor_165 : List UInt8 := 172 :: TX8_divisor_166
def TX8_divisor_164 : List UInt8 := 120 :: TX8_divisor_165
def TX8_divisor_163 : List UInt8 := 28 :: TX8_divisor_164
def TX8_divisor_162 : List UInt8 := 136 :: TX8_divisor_163
def TX8_divisor_159 : List UInt8 := 184 :: 0 :: 181 :: TX8_divisor_162
def TX8_divisor_157 : List UInt8 := 25 :: 4 :: TX8_divisor_159
def TX8_divisor_154 : List UInt8 := 167 :: 255 :: 136 :: TX8_divisor_157
def TX8_divisor_151 : List UInt8 := 167 :: 255 :: 207 :: TX8_divisor_154
def TX8_divisor_148 : List UInt8 := 132 :: 7 :: 1 :: TX8_divisor_151
def TX8_divisor_147 : List UInt8 := 79 :: TX8_divisor_148
def TX8_divisor_146 : List UInt8 := 96 :: TX8_divisor_147
def TX8_divisor_145 : List UInt8 := 120 :: TX8_divisor_146
def TX8_divisor_143 : List UInt8 := 16 :: 30 :: TX8_divisor_145
def TX8_divisor_141 : List UInt8 := 21 :: 6 :: TX8_divisor_143
def TX8_divisor_139 : List UInt8 := 21 :: 8 :: TX8_divisor_141
def TX8_divisor_137 : List UInt8 := 21 :: 7 :: TX8_divisor_139
def TX8_divisor_136 : List UInt8 := 45 :: TX8_divisor_137
def TX8_divisor_134 : List UInt8 := 54 :: 6 :: TX8_divisor_136
def TX8_divisor_133 : List UInt8 := 3 :: TX8_divisor_134
def TX8_divisor_130 : List UInt8 := 167 :: 0 :: 4 :: TX8_divisor_133
def TX8_divisor_129 : List UInt8 := 4 :: TX8_divisor_130
def TX8_divisor_126 : List UInt8 := 156 :: 0 :: 7 :: TX8_divisor_129
def TX8_divisor_124 : List UInt8 := 21 :: 8 :: TX8_divisor_126
def TX8_divisor_122 : List UInt8 := 54 :: 8 :: TX8_divisor_124
def TX8_divisor_121 : List UInt8 := 100 :: TX8_divisor_122
def TX8_divisor_119 : List UInt8 := 21 :: 6 :: TX8_divisor_121
def TX8_divisor_118 : List UInt8 := 100 :: TX8_divisor_119
def TX8_divisor_117 : List UInt8 := 46 :: TX8_divisor_118
def TX8_divisor_115 : List UInt8 := 21 :: 7 :: TX8_divisor_117
def TX8_divisor_113 : List UInt8 := 25 :: 4 :: TX8_divisor_115
def TX8_divisor_112 : List UInt8 := 46 :: TX8_divisor_113
def TX8_divisor_110 : List UInt8 := 21 :: 7 :: TX8_divisor_112
def TX8_divisor_109 : List UInt8 := 45 :: TX8_divisor_110
def TX8_divisor_106 : List UInt8 := 162 :: 0 :: 48 :: TX8_divisor_109
def TX8_divisor_105 : List UInt8 := 190 :: TX8_divisor_106
def TX8_divisor_104 : List UInt8 := 45 :: TX8_divisor_105
def TX8_divisor_102 : List UInt8 := 21 :: 7 :: TX8_divisor_104
def TX8_divisor_100 : List UInt8 := 54 :: 7 :: TX8_divisor_102
def TX8_divisor_99 : List UInt8 := 4 :: TX8_divisor_100
def TX8_divisor_97 : List UInt8 := 54 :: 6 :: TX8_divisor_99
def TX8_divisor_96 : List UInt8 := 3 :: TX8_divisor_97
def TX8_divisor_94 : List UInt8 := 58 :: 4 :: TX8_divisor_96
def TX8_divisor_92 : List UInt8 := 25 :: 5 :: TX8_divisor_94
def TX8_divisor_91 : List UInt8 := 78 :: TX8_divisor_92
def TX8_divisor_89 : List UInt8 := 25 :: 4 :: TX8_divisor_91
def TX8_divisor_86 : List UInt8 := 156 :: 0 :: 10 :: TX8_divisor_89
def TX8_divisor_83 : List UInt8 := 184 :: 0 :: 63 :: TX8_divisor_86
def TX8_divisor_81 : List UInt8 := 25 :: 4 :: TX8_divisor_83
def TX8_divisor_80 : List UInt8 := 45 :: TX8_divisor_81
def TX8_divisor_78 : List UInt8 := 58 :: 5 :: TX8_divisor_80
def TX8_divisor_77 : List UInt8 := 45 :: TX8_divisor_78
def TX8_divisor_74 : List UInt8 := 167 :: 255 :: 240 :: TX8_divisor_77
def TX8_divisor_73 : List UInt8 := 87 :: TX8_divisor_74
def TX8_divisor_70 : List UInt8 := 184 :: 0 :: 95 :: TX8_divisor_73
def TX8_divisor_69 : List UInt8 := 5 :: TX8_divisor_70
def TX8_divisor_67 : List UInt8 := 25 :: 4 :: TX8_divisor_69
def TX8_divisor_64 : List UInt8 := 154 :: 0 :: 13 :: TX8_divisor_67
def TX8_divisor_63 : List UInt8 := 112 :: TX8_divisor_64
def TX8_divisor_62 : List UInt8 := 5 :: TX8_divisor_63
def TX8_divisor_61 : List UInt8 := 46 :: TX8_divisor_62
def TX8_divisor_60 : List UInt8 := 4 :: TX8_divisor_61
def TX8_divisor_58 : List UInt8 := 25 :: 4 :: TX8_divisor_60
def TX8_divisor_55 : List UInt8 := 167 :: 255 :: 242 :: TX8_divisor_58
def TX8_divisor_54 : List UInt8 := 87 :: TX8_divisor_55
def TX8_divisor_51 : List UInt8 := 184 :: 0 :: 95 :: TX8_divisor_54
def TX8_divisor_50 : List UInt8 := 5 :: TX8_divisor_51
def TX8_divisor_49 : List UInt8 := 45 :: TX8_divisor_50
def TX8_divisor_46 : List UInt8 := 154 :: 0 :: 12 :: TX8_divisor_49
def TX8_divisor_45 : List UInt8 := 112 :: TX8_divisor_46
def TX8_divisor_44 : List UInt8 := 5 :: TX8_divisor_45
def TX8_divisor_43 : List UInt8 := 46 :: TX8_divisor_44
def TX8_divisor_42 : List UInt8 := 4 :: TX8_divisor_43
def TX8_divisor_41 : List UInt8 := 45 :: TX8_divisor_42
def TX8_divisor_38 : List UInt8 := 154 :: 0 :: 119 :: TX8_divisor_41
def TX8_divisor_35 : List UInt8 := 184 :: 0 :: 89 :: TX8_divisor_38
def TX8_divisor_34 : List UInt8 := 45 :: TX8_divisor_35
def TX8_divisor_32 : List UInt8 := 58 :: 4 :: TX8_divisor_34
def TX8_divisor_29 : List UInt8 := 184 :: 0 :: 178 :: TX8_divisor_32
def TX8_divisor_28 : List UInt8 := 190 :: TX8_divisor_29
def TX8_divisor_27 : List UInt8 := 45 :: TX8_divisor_28
def TX8_divisor_26 : List UInt8 := 43 :: TX8_divisor_27
def TX8_divisor_25 : List UInt8 := 78 :: TX8_divisor_26
def TX8_divisor_22 : List UInt8 := 184 :: 0 :: 178 :: TX8_divisor_25
def TX8_divisor_19 : List UInt8 := 184 :: 0 :: 71 :: TX8_divisor_22
def TX8_divisor_18 : List UInt8 := 190 :: TX8_divisor_19
def TX8_divisor_17 : List UInt8 := 43 :: TX8_divisor_18
def TX8_divisor_16 : List UInt8 := 190 :: TX8_divisor_17
def TX8_divisor_15 : List UInt8 := 42 :: TX8_divisor_16
def TX8_divisor_14 : List UInt8 := 42 :: TX8_divisor_15
def TX8_divisor_13 : List UInt8 := 61 :: TX8_divisor_14
def TX8_divisor_10 : List UInt8 := 184 :: 0 :: 175 :: TX8_divisor_13
def TX8_divisor_7 : List UInt8 := 184 :: 0 :: 121 :: TX8_divisor_10
def TX8_divisor_6 : List UInt8 := 5 :: TX8_divisor_7
def TX8_divisor_5 : List UInt8 := 43 :: TX8_divisor_6
def TX8_divisor_2 : List UInt8 := 184 :: 0 :: 121 :: TX8_divisor_5
def TX8_divisor_1 : List UInt8 := 5 :: TX8_divisor_2
def TX8_divisor_0 : List UInt8 := 42 :: TX8_divisor_1
theorem DX8_divisor_0 : cX8_divisor.data.toList.drop 0 = TX8_divisor_0 := by decide +kernel
theorem DX8_divisor_1 : cX8_divisor.data.toList.drop 1 = TX8_divisor_1 := dr1 DX8_divisor_0
theorem DX8_divisor_2 : cX8_divisor.data.toList.drop 2 = TX8_divisor_2 := dr1 DX8_divisor_1
theorem DX8_divisor_5 : cX8_divisor.data.toList.drop 5 = TX8_divisor_5 := dr3 DX8_divisor_2
theorem DX8_divisor_6 : cX8_divisor.data.toList.drop 6 = TX8_divisor_6 := dr1 DX8_divisor_5
theorem DX8_divisor_7 : cX8_divisor.data.toList.drop 7 = TX8_divisor_7 := dr1 DX8_divisor_6
theorem DX8_divisor_10 : cX8_divisor.data.toList.drop 10 = TX8_divisor_10 := dr3 DX8_divisor_7
theorem DX8_divisor_13 : cX8_divisor.data.toList.drop 13 = TX8_divisor_13 := dr3 DX8_divisor_10
theorem DX8_divisor_14 : cX8_divisor.data.toList.drop 14 = TX8_divisor_14 := dr1 DX8_divisor_13
theorem DX8_divisor_15 : cX8_divisor.data.toList.drop 15 = TX8_divisor_15 := dr1 DX8_divisor_14
theorem DX8_divisor_16 : cX8_divisor.data.toList.drop 16 = TX8_divisor_16 := dr1 DX8_divisor_15
theorem DX8_divisor_17 : cX8_divisor.data.toList.drop 17 = TX8_divisor_17 := dr1 DX8_divisor_16
theorem DX8_divisor_18 : cX8_divisor.data.toList.drop 18 = TX8_divisor_18 := dr1 DX8_divisor_17
theorem DX8_divisor_19 : cX8_divisor.data.toList.drop 19 = TX8_divisor_19 := dr1 DX8_divisor_18
theorem DX8_divisor_22 : cX8_divisor.data.toList.drop 22 = TX8_divisor_22 := dr3 DX8_divisor_19
theorem DX8_divisor_25 : cX8_divisor.data.toList.drop 25 = TX8_divisor_25 := dr3 DX8_divisor_22
theorem DX8_divisor_26 : cX8_divisor.data.toList.drop 26 = TX8_divisor_26 := dr1 DX8_divisor_25
theorem DX8_divisor_27 : cX8_divisor.data.toList.drop 27 = TX8_divisor_27 := dr1 DX8_divisor_26
theorem DX8_divisor_28 : cX8_divisor.data.toList.drop 28 = TX8_divisor_28 := dr1 DX8_divisor_27
theorem DX8_divisor_29 : cX8_divisor.data.toList.drop 29 = TX8_divisor_29 := dr1 DX8_divisor_28
theorem DX8_divisor_32 : cX8_divisor.data.toList.drop 32 = TX8_divisor_32 := dr3 DX8_divisor_29
theorem DX8_divisor_34 : cX8_divisor.data.toList.drop 34 = TX8_divisor_34 := dr2 DX8_divisor_32
theorem DX8_divisor_35 : cX8_divisor.data.toList.drop 35 = TX8_divisor_35 := dr1 DX8_divisor_34
theorem DX8_divisor_38 : cX8_divisor.data.toList.drop 38 = TX8_divisor_38 := dr3 DX8_divisor_35
theorem DX8_divisor_41 : cX8_divisor.data.toList.drop 41 = TX8_divisor_41 := dr3 DX8_divisor_38
theorem DX8_divisor_42 : cX8_divisor.data.toList.drop 42 = TX8_divisor_42 := dr1 DX8_divisor_41
theorem DX8_divisor_43 : cX8_divisor.data.toList.drop 43 = TX8_divisor_43 := dr1 DX8_divisor_42
theorem DX8_divisor_44 : cX8_divisor.data.toList.drop 44 = TX8_divisor_44 := dr1 DX8_divisor_43
theorem DX8_divisor_45 : cX8_divisor.data.toList.drop 45 = TX8_divisor_45 := dr1 DX8_divisor_44
theorem DX8_divisor_46 : cX8_divisor.data.toList.drop 46 = TX8_divisor_46 := dr1 DX8_divisor_45
theorem DX8_divisor_49 : cX8_divisor.data.toList.drop 49 = TX8_divisor_49 := dr3 DX8_divisor_46
theorem DX8_divisor_50 : cX8_divisor.data.toList.drop 50 = TX8_divisor_50 := dr1 DX8_divisor_49
theorem DX8_divisor_51 : cX8_divisor.data.toList.drop 51 = TX8_divisor_51 := dr1 DX8_divisor_50
theorem DX8_divisor_54 : cX8_divisor.data.toList.drop 54 = TX8_divisor_54 := dr3 DX8_divisor_51
theorem DX8_divisor_55 : cX8_divisor.data.toList.drop 55 = TX8_divisor_55 := dr1 DX8_divisor_54
theorem DX8_divisor_58 : cX8_divisor.data.toList.drop 58 = TX8_divisor_58 := dr3 DX8_divisor_55
theorem DX8_divisor_60 : cX8_divisor.data.toList.drop 60 = TX8_divisor_60 := dr2 DX8_divisor_58
theorem DX8_divisor_61 : cX8_divisor.data.toList.drop 61 = TX8_divisor_61 := dr1 DX8_divisor_60
theorem DX8_divisor_62 : cX8_divisor.data.toList.drop 62 = TX8_divisor_62 := dr1 DX8_divisor_61
theorem DX8_divisor_63 : cX8_divisor.data.toList.drop 63 = TX8_divisor_63 := dr1 DX8_divisor_62
theorem DX8_divisor_64 : cX8_divisor.data.toList.drop 64 = TX8_divisor_64 := dr1 DX8_divisor_63
theorem DX8_divisor_67 : cX8_divisor.data.toList.drop 67 = TX8_divisor_67 := dr3 DX8_divisor_64
theorem DX8_divisor_69 : cX8_divisor.data.toList.drop 69 = TX8_divisor_69 := dr2 DX8_divisor_67
theorem DX8_divisor_70 : cX8_divisor.data.toList.drop 70 = TX8_divisor_70 := dr1 DX8_divisor_69
theorem DX8_divisor_73 : cX8_divisor.data.toList.drop 73 = TX8_divisor_73 := dr3 DX8_divisor_70
theorem DX8_divisor_74 : cX8_divisor.data.toList.drop 74 = TX8_divisor_74 := dr1 DX8_divisor_73
theorem DX8_divisor_77 : cX8_divisor.data.toList.drop 77 = TX8_divisor_77 := dr3 DX8_divisor_74
theorem DX8_divisor_78 : cX8_divisor.data.toList.drop 78 = TX8_divisor_78 := dr1 DX8_divisor_77
theorem DX8_divisor_80 : cX8_divisor.data.toList.drop 80 = TX8_divisor_80 := dr2 DX8_divisor_78
theorem DX8_divisor_81 : cX8_divisor.data.toList.drop 81 = TX8_divisor_81 := dr1 DX8_divisor_80
theorem DX8_divisor_83 : cX8_divisor.data.toList.drop 83 = TX8_divisor_83 := dr2 DX8_divisor_81
theorem DX8_divisor_86 : cX8_divisor.data.toList.drop 86 = TX8_divisor_86 := dr3 DX8_divisor_83
theorem DX8_divisor_89 : cX8_divisor.data.toList.drop 89 = TX8_divisor_89 := dr3 DX8_divisor_86
theorem DX8_divisor_91 : cX8_divisor.data.toList.drop 91 = TX8_divisor_91 := dr2 DX8_divisor_89
theorem DX8_divisor_92 : cX8_divisor.data.toList.drop 92 = TX8_divisor_92 := dr1 DX8_divisor_91
theorem DX8_divisor_94 : cX8_divisor.data.toList.drop 94 = TX8_divisor_94 := dr2 DX8_divisor_92
theorem DX8_divisor_96 : cX8_divisor.data.toList.drop 96 = TX8_divisor_96 := dr2 DX8_divisor_94
theorem DX8_divisor_97 : cX8_divisor.data.toList.drop 97 = TX8_divisor_97 := dr1 DX8_divisor_96
theorem DX8_divisor_99 : cX8_divisor.data.toList.drop 99 = TX8_divisor_99 := dr2 DX8_divisor_97
theorem DX8_divisor_100 : cX8_divisor.data.toList.drop 100 = TX8_divisor_100 := dr1 DX8_divisor_99
theorem DX8_divisor_102 : cX8_divisor.data.toList.drop 102 = TX8_divisor_102 := dr2 DX8_divisor_100
theorem DX8_divisor_104 : cX8_divisor.data.toList.drop 104 = TX8_divisor_104 := dr2 DX8_divisor_102
theorem DX8_divisor_105 : cX8_divisor.data.toList.drop 105 = TX8_divisor_105 := dr1 DX8_divisor_104
theorem DX8_divisor_106 : cX8_divisor.data.toList.drop 106 = TX8_divisor_106 := dr1 DX8_divisor_105
theorem DX8_divisor_109 : cX8_divisor.data.toList.drop 109 = TX8_divisor_109 := dr3 DX8_divisor_106
theorem DX8_divisor_110 : cX8_divisor.data.toList.drop 110 = TX8_divisor_110 := dr1 DX8_divisor_109
theorem DX8_divisor_112 : cX8_divisor.data.toList.drop 112 = TX8_divisor_112 := dr2 DX8_divisor_110
theorem DX8_divisor_113 : cX8_divisor.data.toList.drop 113 = TX8_divisor_113 := dr1 DX8_divisor_112
theorem DX8_divisor_115 : cX8_divisor.data.toList.drop 115 = TX8_divisor_115 := dr2 DX8_divisor_113
theorem DX8_divisor_117 : cX8_divisor.data.toList.drop 117 = TX8_divisor_117 := dr2 DX8_divisor_115
theorem DX8_divisor_118 : cX8_divisor.data.toList.drop 118 = TX8_divisor_118 := dr1 DX8_divisor_117
theorem DX8_divisor_119 : cX8_divisor.data.toList.drop 119 = TX8_divisor_119 := dr1 DX8_divisor_118
theorem DX8_divisor_121 : cX8_divisor.data.toList.drop 121 = TX8_divisor_121 := dr2 DX8_divisor_119
theorem DX8_divisor_122 : cX8_divisor.data.toList.drop 122 = TX8_divisor_122 := dr1 DX8_divisor_121
theorem DX8_divisor_124 : cX8_divisor.data.toList.drop 124 = TX8_divisor_124 := dr2 DX8_divisor_122
theorem DX8_divisor_126 : cX8_divisor.data.toList.drop 126 = TX8_divisor_126 := dr2 DX8_divisor_124
theorem DX8_divisor_129 : cX8_divisor.data.toList.drop 129 = TX8_divisor_129 := dr3 DX8_divisor_126
theorem DX8_divisor_130 : cX8_divisor.data.toList.drop 130 = TX8_divisor_130 := dr1 DX8_divisor_129
theorem DX8_divisor_133 : cX8_divisor.data.toList.drop 133 = TX8_divisor_133 := dr3 DX8_divisor_130
theorem DX8_divisor_134 : cX8_divisor.data.toList.drop 134 = TX8_divisor_134 := dr1 DX8_divisor_133
theorem DX8_divisor_136 : cX8_divisor.data.toList.drop 136 = TX8_divisor_136 := dr2 DX8_divisor_134
theorem DX8_divisor_137 : cX8_divisor.data.toList.drop 137 = TX8_divisor_137 := dr1 DX8_divisor_136
theorem DX8_divisor_139 : cX8_divisor.data.toList.drop 139 = TX8_divisor_139 := dr2 DX8_divisor_137
theorem DX8_divisor_141 : cX8_divisor.data.toList.drop 141 = TX8_divisor_141 := dr2 DX8_divisor_139
theorem DX8_divisor_143 : cX8_divisor.data.toList.drop 143 = TX8_divisor_143 := dr2 DX8_divisor_141
theorem DX8_divisor_145 : cX8_divisor.data.toList.drop 145 = TX8_divisor_145 := dr2 DX8_divisor_143
theorem DX8_divisor_146 : cX8_divisor.data.toList.drop 146 = TX8_divisor_146 := dr1 DX8_divisor_145
theorem DX8_divisor_147 : cX8_divisor.data.toList.drop 147 = TX8_divisor_147 := dr1 DX8_divisor_146
theorem DX8_divisor_148 : cX8_divisor.data.toList.drop 148 = TX8_divisor_148 := dr1 DX8_divisor_147
theorem DX8_divisor_151 : cX8_divisor.data.toList.drop 151 = TX8_divisor_151 := dr3 DX8_divisor_148
theorem DX8_divisor_154 : cX8_divisor.data.toList.drop 154 = TX8_divisor_154 := dr3 DX8_divisor_151
theorem DX8_divisor_157 : cX8_divisor.data.toList.drop 157 = TX8_divisor_157 := dr3 DX8_divisor_154
theorem DX8_divisor_159 : cX8_divisor.data.toList.drop 159 = TX8_divisor_159 := dr2 DX8_divisor_157
theorem DX8_divisor_162 : cX8_divisor.data.toList.drop 162 = TX8_divisor_162 := dr3 DX8_divisor_159
theorem DX8_divisor_163 : cX8_divisor.data.toList.drop 163 = TX8_divisor_163 := dr1 DX8_divisor_162
theorem DX8_divisor_164 : cX8_divisor.data.toList.drop 164 = TX8_divisor_164 := dr1 DX8_divisor_163
theorem DX8_divisor_165 : cX8_divisor.data.toList.drop 165 = TX8_divisor_165 := dr1 DX8_divisor_164
theorem dX8_divisor_0 : decode cX8_divisor 0 = .ok (.aload_n 0, 1) := do_2a DX8_divisor_0
theorem dX8_divisor_1 : decode cX8_divisor 1 = .ok (.iconst 2, 1) := do_05 DX8_divisor_1
theorem dX8_divisor_2 : decode cX8_divisor 2 = .ok (.invokestatic 121, 3) := do_b8 DX8_divisor_2
theorem dX8_divisor_5 : decode cX8_divisor 5 = .ok (.aload_n 1, 1) := do_2b DX8_divisor_5
theorem dX8_divisor_6 : decode cX8_divisor 6 = .ok (.iconst 2, 1) := do_05 DX8_divisor_6
theorem dX8_divisor_7 : decode cX8_divisor 7 = .ok (.invokestatic 121, 3) := do_b8 DX8_divisor_7
theorem dX8_divisor_10 : decode cX8_divisor 10 = .ok (.invokestatic 175, 3) := do_b8 DX8_divisor_10
theorem dX8_divisor_13 : decode cX8_divisor 13 = .ok (.istore_n 2, 1) := do_3d DX8_divisor_13
theorem dX8_divisor_14 : decode cX8_divisor 14 = .ok (.aload_n 0, 1) := do_2a DX8_divisor_14
theorem dX8_divisor_15 : decode cX8_divisor 15 = .ok (.aload_n 0, 1) := do_2a DX8_divisor_15
theorem dX8_divisor_16 : decode cX8_divisor 16 = .ok (.arraylength, 1) := do_be DX8_divisor_16
theorem dX8_divisor_17 : decode cX8_divisor 17 = .ok (.aload_n 1, 1) := do_2b DX8_divisor_17
theorem dX8_divisor_18 : decode cX8_divisor 18 = .ok (.arraylength, 1) := do_be DX8_divisor_18
theorem dX8_divisor_19 : decode cX8_divisor 19 = .ok (.invokestatic 71, 3) := do_b8 DX8_divisor_19
theorem dX8_divisor_22 : decode cX8_divisor 22 = .ok (.invokestatic 178, 3) := do_b8 DX8_divisor_22
theorem dX8_divisor_25 : decode cX8_divisor 25 = .ok (.astore_n 3, 1) := do_4e DX8_divisor_25
theorem dX8_divisor_26 : decode cX8_divisor 26 = .ok (.aload_n 1, 1) := do_2b DX8_divisor_26
theorem dX8_divisor_27 : decode cX8_divisor 27 = .ok (.aload_n 3, 1) := do_2d DX8_divisor_27
theorem dX8_divisor_28 : decode cX8_divisor 28 = .ok (.arraylength, 1) := do_be DX8_divisor_28
theorem dX8_divisor_29 : decode cX8_divisor 29 = .ok (.invokestatic 178, 3) := do_b8 DX8_divisor_29
theorem dX8_divisor_32 : decode cX8_divisor 32 = .ok (.astore 4, 2) := do_3a DX8_divisor_32
theorem dX8_divisor_34 : decode cX8_divisor 34 = .ok (.aload_n 3, 1) := do_2d DX8_divisor_34
theorem dX8_divisor_35 : decode cX8_divisor 35 = .ok (.invokestatic 89, 3) := do_b8 DX8_divisor_35
theorem dX8_divisor_38 : decode cX8_divisor 38 = .ok (.ifCond .ne 119, 3) := do_9a DX8_divisor_38 (by decide +kernel)
theorem dX8_divisor_41 : decode cX8_divisor 41 = .ok (.aload_n 3, 1) := do_2d DX8_divisor_41
theorem dX8_divisor_42 : decode cX8_divisor 42 = .ok (.iconst 1, 1) := do_04 DX8_divisor_42
theorem dX8_divisor_43 : decode cX8_divisor 43 = .ok (.iaload, 1) := do_2e DX8_divisor_43
theorem dX8_divisor_44 : decode cX8_divisor 44 = .ok (.iconst 2, 1) := do_05 DX8_divisor_44
theorem dX8_divisor_45 : decode cX8_divisor 45 = .ok (.irem, 1) := do_70 DX8_divisor_45
theorem dX8_divisor_46 : decode cX8_divisor 46 = .ok (.ifCond .ne 12, 3) := do_9a DX8_divisor_46 (by decide +kernel)
theorem dX8_divisor_49 : decode cX8_divisor 49 = .ok (.aload_n 3, 1) := do_2d DX8_divisor_49
theorem dX8_divisor_50 : decode cX8_divisor 50 = .ok (.iconst 2, 1) := do_05 DX8_divisor_50
theorem dX8_divisor_51 : decode cX8_divisor 51 = .ok (.invokestatic 95, 3) := do_b8 DX8_divisor_51
theorem dX8_divisor_54 : decode cX8_divisor 54 = .ok (.pop, 1) := do_57 DX8_divisor_54
theorem dX8_divisor_55 : decode cX8_divisor 55 = .ok (.goto (-14), 3) := do_a7 DX8_divisor_55 (by decide +kernel)
theorem dX8_divisor_58 : decode cX8_divisor 58 = .ok (.aload 4, 2) := do_19 DX8_divisor_58
theorem dX8_divisor_60 : decode cX8_divisor 60 = .ok (.iconst 1, 1) := do_04 DX8_divisor_60
theorem dX8_divisor_61 : decode cX8_divisor 61 = .ok (.iaload, 1) := do_2e DX8_divisor_61
theorem dX8_divisor_62 : decode cX8_divisor 62 = .ok (.iconst 2, 1) := do_05 DX8_divisor_62
theorem dX8_divisor_63 : decode cX8_divisor 63 = .ok (.irem, 1) := do_70 DX8_divisor_63
theorem dX8_divisor_64 : decode cX8_divisor 64 = .ok (.ifCond .ne 13, 3) := do_9a DX8_divisor_64 (by decide +kernel)
theorem dX8_divisor_67 : decode cX8_divisor 67 = .ok (.aload 4, 2) := do_19 DX8_divisor_67
theorem dX8_divisor_69 : decode cX8_divisor 69 = .ok (.iconst 2, 1) := do_05 DX8_divisor_69
theorem dX8_divisor_70 : decode cX8_divisor 70 = .ok (.invokestatic 95, 3) := do_b8 DX8_divisor_70
theorem dX8_divisor_73 : decode cX8_divisor 73 = .ok (.pop, 1) := do_57 DX8_divisor_73
theorem dX8_divisor_74 : decode cX8_divisor 74 = .ok (.goto (-16), 3) := do_a7 DX8_divisor_74 (by decide +kernel)
theorem dX8_divisor_77 : decode cX8_divisor 77 = .ok (.aload_n 3, 1) := do_2d DX8_divisor_77
theorem dX8_divisor_78 : decode cX8_divisor 78 = .ok (.astore 5, 2) := do_3a DX8_divisor_78
theorem dX8_divisor_80 : decode cX8_divisor 80 = .ok (.aload_n 3, 1) := do_2d DX8_divisor_80
theorem dX8_divisor_81 : decode cX8_divisor 81 = .ok (.aload 4, 2) := do_19 DX8_divisor_81
theorem dX8_divisor_83 : decode cX8_divisor 83 = .ok (.invokestatic 63, 3) := do_b8 DX8_divisor_83
theorem dX8_divisor_86 : decode cX8_divisor 86 = .ok (.ifCond .ge 10, 3) := do_9c DX8_divisor_86 (by decide +kernel)
theorem dX8_divisor_89 : decode cX8_divisor 89 = .ok (.aload 4, 2) := do_19 DX8_divisor_89
theorem dX8_divisor_91 : decode cX8_divisor 91 = .ok (.astore_n 3, 1) := do_4e DX8_divisor_91
theorem dX8_divisor_92 : decode cX8_divisor 92 = .ok (.aload 5, 2) := do_19 DX8_divisor_92
theorem dX8_divisor_94 : decode cX8_divisor 94 = .ok (.astore 4, 2) := do_3a DX8_divisor_94
theorem dX8_divisor_96 : decode cX8_divisor 96 = .ok (.iconst 0, 1) := do_03 DX8_divisor_96
theorem dX8_divisor_97 : decode cX8_divisor 97 = .ok (.istore 6, 2) := do_36 DX8_divisor_97
theorem dX8_divisor_99 : decode cX8_divisor 99 = .ok (.iconst 1, 1) := do_04 DX8_divisor_99
theorem dX8_divisor_100 : decode cX8_divisor 100 = .ok (.istore 7, 2) := do_36 DX8_divisor_100
theorem dX8_divisor_102 : decode cX8_divisor 102 = .ok (.iload 7, 2) := do_15 DX8_divisor_102
theorem dX8_divisor_104 : decode cX8_divisor 104 = .ok (.aload_n 3, 1) := do_2d DX8_divisor_104
theorem dX8_divisor_105 : decode cX8_divisor 105 = .ok (.arraylength, 1) := do_be DX8_divisor_105
theorem dX8_divisor_106 : decode cX8_divisor 106 = .ok (.if_icmp .ge 48, 3) := do_a2 DX8_divisor_106 (by decide +kernel)
theorem dX8_divisor_109 : decode cX8_divisor 109 = .ok (.aload_n 3, 1) := do_2d DX8_divisor_109
theorem dX8_divisor_110 : decode cX8_divisor 110 = .ok (.iload 7, 2) := do_15 DX8_divisor_110
theorem dX8_divisor_112 : decode cX8_divisor 112 = .ok (.iaload, 1) := do_2e DX8_divisor_112
theorem dX8_divisor_113 : decode cX8_divisor 113 = .ok (.aload 4, 2) := do_19 DX8_divisor_113
theorem dX8_divisor_115 : decode cX8_divisor 115 = .ok (.iload 7, 2) := do_15 DX8_divisor_115
theorem dX8_divisor_117 : decode cX8_divisor 117 = .ok (.iaload, 1) := do_2e DX8_divisor_117
theorem dX8_divisor_118 : decode cX8_divisor 118 = .ok (.isub, 1) := do_64 DX8_divisor_118
theorem dX8_divisor_119 : decode cX8_divisor 119 = .ok (.iload 6, 2) := do_15 DX8_divisor_119
theorem dX8_divisor_121 : decode cX8_divisor 121 = .ok (.isub, 1) := do_64 DX8_divisor_121
theorem dX8_divisor_122 : decode cX8_divisor 122 = .ok (.istore 8, 2) := do_36 DX8_divisor_122
theorem dX8_divisor_124 : decode cX8_divisor 124 = .ok (.iload 8, 2) := do_15 DX8_divisor_124
theorem dX8_divisor_126 : decode cX8_divisor 126 = .ok (.ifCond .ge 7, 3) := do_9c DX8_divisor_126 (by decide +kernel)
theorem dX8_divisor_129 : decode cX8_divisor 129 = .ok (.iconst 1, 1) := do_04 DX8_divisor_129
theorem dX8_divisor_130 : decode cX8_divisor 130 = .ok (.goto 4, 3) := do_a7 DX8_divisor_130 (by decide +kernel)
theorem dX8_divisor_133 : decode cX8_divisor 133 = .ok (.iconst 0, 1) := do_03 DX8_divisor_133
theorem dX8_divisor_134 : decode cX8_divisor 134 = .ok (.istore 6, 2) := do_36 DX8_divisor_134
theorem dX8_divisor_136 : decode cX8_divisor 136 = .ok (.aload_n 3, 1) := do_2d DX8_divisor_136
theorem dX8_divisor_137 : decode cX8_divisor 137 = .ok (.iload 7, 2) := do_15 DX8_divisor_137
theorem dX8_divisor_139 : decode cX8_divisor 139 = .ok (.iload 8, 2) := do_15 DX8_divisor_139
theorem dX8_divisor_141 : decode cX8_divisor 141 = .ok (.iload 6, 2) := do_15 DX8_divisor_141
theorem dX8_divisor_143 : decode cX8_divisor 143 = .ok (.bipush 30, 2) := do_10 DX8_divisor_143 (by decide +kernel)
theorem dX8_divisor_145 : decode cX8_divisor 145 = .ok (.ishl, 1) := do_78 DX8_divisor_145
theorem dX8_divisor_146 : decode cX8_divisor 146 = .ok (.iadd, 1) := do_60 DX8_divisor_146
theorem dX8_divisor_147 : decode cX8_divisor 147 = .ok (.iastore, 1) := do_4f DX8_divisor_147
theorem dX8_divisor_148 : decode cX8_divisor 148 = .ok (.iinc 7 1, 3) := do_84 DX8_divisor_148
theorem dX8_divisor_151 : decode cX8_divisor 151 = .ok (.goto (-49), 3) := do_a7 DX8_divisor_151 (by decide +kernel)
theorem dX8_divisor_154 : decode cX8_divisor 154 = .ok (.goto (-120), 3) := do_a7 DX8_divisor_154 (by decide +kernel)
theorem dX8_divisor_157 : decode cX8_divisor 157 = .ok (.aload 4, 2) := do_19 DX8_divisor_157
theorem dX8_divisor_159 : decode cX8_divisor 159 = .ok (.invokestatic 181, 3) := do_b8 DX8_divisor_159
theorem dX8_divisor_162 : decode cX8_divisor 162 = .ok (.l2i, 1) := do_88 DX8_divisor_162
theorem dX8_divisor_163 : decode cX8_divisor 163 = .ok (.iload_n 2, 1) := do_1c DX8_divisor_163
theorem dX8_divisor_164 : decode cX8_divisor 164 = .ok (.ishl, 1) := do_78 DX8_divisor_164
theorem dX8_divisor_165 : decode cX8_divisor 165 = .ok (.ireturn, 1) := do_ac DX8_divisor_165
def TX8_tested_58 : List UInt8 := []
def TX8_tested_57 : List UInt8 := 172 :: TX8_tested_58
def TX8_tested_56 : List UInt8 := 136 :: TX8_tested_57
def TX8_tested_53 : List UInt8 := 184 :: 0 :: 181 :: TX8_tested_56
def TX8_tested_50 : List UInt8 := 184 :: 0 :: 188 :: TX8_tested_53
def TX8_tested_49 : List UInt8 := 50 :: TX8_tested_50
def TX8_tested_48 : List UInt8 := 4 :: TX8_tested_49
def TX8_tested_47 : List UInt8 := 43 :: TX8_tested_48
def TX8_tested_46 : List UInt8 := 50 :: TX8_tested_47
def TX8_tested_45 : List UInt8 := 3 :: TX8_tested_46
def TX8_tested_44 : List UInt8 := 43 :: TX8_tested_45
def TX8_tested_43 : List UInt8 := 26 :: TX8_tested_44
def TX8_tested_40 : List UInt8 := 167 :: 0 :: 13 :: TX8_tested_43
def TX8_tested_37 : List UInt8 := 184 :: 0 :: 127 :: TX8_tested_40
def TX8_tested_34 : List UInt8 := 184 :: 0 :: 124 :: TX8_tested_37
def TX8_tested_33 : List UInt8 := 50 :: TX8_tested_34
def TX8_tested_32 : List UInt8 := 4 :: TX8_tested_33
def TX8_tested_31 : List UInt8 := 43 :: TX8_tested_32
def TX8_tested_30 : List UInt8 := 50 :: TX8_tested_31
def TX8_tested_29 : List UInt8 := 5 :: TX8_tested_30
def TX8_tested_28 : List UInt8 := 43 :: TX8_tested_29
def TX8_tested_25 : List UInt8 := 184 :: 0 :: 124 :: TX8_tested_28
def TX8_tested_24 : List UInt8 := 50 :: TX8_tested_25
def TX8_tested_23 : List UInt8 := 6 :: TX8_tested_24
def TX8_tested_22 : List UInt8 := 43 :: TX8_tested_23
def TX8_tested_21 : List UInt8 := 50 :: TX8_tested_22
def TX8_tested_20 : List UInt8 := 3 :: TX8_tested_21
def TX8_tested_19 : List UInt8 := 43 :: TX8_tested_20
def TX8_tested_16 : List UInt8 := 160 :: 0 :: 27 :: TX8_tested_19
def TX8_tested_15 : List UInt8 := 4 :: TX8_tested_16
def TX8_tested_14 : List UInt8 := 28 :: TX8_tested_15
def TX8_tested_13 : List UInt8 := 172 :: TX8_tested_14
def TX8_tested_10 : List UInt8 := 184 :: 0 :: 185 :: TX8_tested_13
def TX8_tested_9 : List UInt8 := 50 :: TX8_tested_10
def TX8_tested_8 : List UInt8 := 4 :: TX8_tested_9
def TX8_tested_7 : List UInt8 := 43 :: TX8_tested_8
def TX8_tested_6 : List UInt8 := 50 :: TX8_tested_7
def TX8_tested_5 : List UInt8 := 3 :: TX8_tested_6
def TX8_tested_4 : List UInt8 := 43 :: TX8_tested_5
def TX8_tested_1 : List UInt8 := 154 :: 0 :: 13 :: TX8_tested_4
def TX8_tested_0 : List UInt8 := 28 :: TX8_tested_1
theorem DX8_tested_0 : cX8_tested.data.toList.drop 0 = TX8_tested_0 := by decide +kernel
theorem DX8_tested_1 : cX8_tested.data.toList.drop 1 = TX8_tested_1 := dr1 DX8_tested_0
theorem DX8_tested_4 : cX8_tested.data.toList.drop 4 = TX8_tested_4 := dr3 DX8_tested_1
theorem DX8_tested_5 : cX8_tested.data.toList.drop 5 = TX8_tested_5 := dr1 DX8_tested_4
theorem DX8_tested_6 : cX8_tested.data.toList.drop 6 = TX8_tested_6 := dr1 DX8_tested_5
theorem DX8_tested_7 : cX8_tested.data.toList.drop 7 = TX8_tested_7 := dr1 DX8_tested_6
theorem DX8_tested_8 : cX8_tested.data.toList.drop 8 = TX8_tested_8 := dr1 DX8_tested_7
theorem DX8_tested_9 : cX8_tested.data.toList.drop 9 = TX8_tested_9 := dr1 DX8_tested_8
theorem DX8_tested_10 : cX8_tested.data.toList.drop 10 = TX8_tested_10 := dr1 DX8_tested_9
theorem DX8_tested_13 : cX8_tested.data.toList.drop 13 = TX8_tested_13 := dr3 DX8_tested_10
theorem DX8_tested_14 : cX8_tested.data.toList.drop 14 = TX8_tested_14 := dr1 DX8_tested_13
theorem DX8_tested_15 : cX8_tested.data.toList.drop 15 = TX8_tested_15 := dr1 DX8_tested_14
theorem DX8_tested_16 : cX8_tested.data.toList.drop 16 = TX8_tested_16 := dr1 DX8_tested_15
theorem DX8_tested_19 : cX8_tested.data.toList.drop 19 = TX8_tested_19 := dr3 DX8_tested_16
theorem DX8_tested_20 : cX8_tested.data.toList.drop 20 = TX8_tested_20 := dr1 DX8_tested_19
theorem DX8_tested_21 : cX8_tested.data.toList.drop 21 = TX8_tested_21 := dr1 DX8_tested_20
theorem DX8_tested_22 : cX8_tested.data.toList.drop 22 = TX8_tested_22 := dr1 DX8_tested_21
theorem DX8_tested_23 : cX8_tested.data.toList.drop 23 = TX8_tested_23 := dr1 DX8_tested_22
theorem DX8_tested_24 : cX8_tested.data.toList.drop 24 = TX8_tested_24 := dr1 DX8_tested_23
theorem DX8_tested_25 : cX8_tested.data.toList.drop 25 = TX8_tested_25 := dr1 DX8_tested_24
theorem DX8_tested_28 : cX8_tested.data.toList.drop 28 = TX8_tested_28 := dr3 DX8_tested_25
theorem DX8_tested_29 : cX8_tested.data.toList.drop 29 = TX8_tested_29 := dr1 DX8_tested_28
theorem DX8_tested_30 : cX8_tested.data.toList.drop 30 = TX8_tested_30 := dr1 DX8_tested_29
theorem DX8_tested_31 : cX8_tested.data.toList.drop 31 = TX8_tested_31 := dr1 DX8_tested_30
theorem DX8_tested_32 : cX8_tested.data.toList.drop 32 = TX8_tested_32 := dr1 DX8_tested_31
theorem DX8_tested_33 : cX8_tested.data.toList.drop 33 = TX8_tested_33 := dr1 DX8_tested_32
theorem DX8_tested_34 : cX8_tested.data.toList.drop 34 = TX8_tested_34 := dr1 DX8_tested_33
theorem DX8_tested_37 : cX8_tested.data.toList.drop 37 = TX8_tested_37 := dr3 DX8_tested_34
theorem DX8_tested_40 : cX8_tested.data.toList.drop 40 = TX8_tested_40 := dr3 DX8_tested_37
theorem DX8_tested_43 : cX8_tested.data.toList.drop 43 = TX8_tested_43 := dr3 DX8_tested_40
theorem DX8_tested_44 : cX8_tested.data.toList.drop 44 = TX8_tested_44 := dr1 DX8_tested_43
theorem DX8_tested_45 : cX8_tested.data.toList.drop 45 = TX8_tested_45 := dr1 DX8_tested_44
theorem DX8_tested_46 : cX8_tested.data.toList.drop 46 = TX8_tested_46 := dr1 DX8_tested_45
theorem DX8_tested_47 : cX8_tested.data.toList.drop 47 = TX8_tested_47 := dr1 DX8_tested_46
theorem DX8_tested_48 : cX8_tested.data.toList.drop 48 = TX8_tested_48 := dr1 DX8_tested_47
theorem DX8_tested_49 : cX8_tested.data.toList.drop 49 = TX8_tested_49 := dr1 DX8_tested_48
theorem DX8_tested_50 : cX8_tested.data.toList.drop 50 = TX8_tested_50 := dr1 DX8_tested_49
theorem DX8_tested_53 : cX8_tested.data.toList.drop 53 = TX8_tested_53 := dr3 DX8_tested_50
theorem DX8_tested_56 : cX8_tested.data.toList.drop 56 = TX8_tested_56 := dr3 DX8_tested_53
theorem DX8_tested_57 : cX8_tested.data.toList.drop 57 = TX8_tested_57 := dr1 DX8_tested_56
theorem dX8_tested_0 : decode cX8_tested 0 = .ok (.iload_n 2, 1) := do_1c DX8_tested_0
theorem dX8_tested_1 : decode cX8_tested 1 = .ok (.ifCond .ne 13, 3) := do_9a DX8_tested_1 (by decide +kernel)
theorem dX8_tested_4 : decode cX8_tested 4 = .ok (.aload_n 1, 1) := do_2b DX8_tested_4
theorem dX8_tested_5 : decode cX8_tested 5 = .ok (.iconst 0, 1) := do_03 DX8_tested_5
theorem dX8_tested_6 : decode cX8_tested 6 = .ok (.aaload, 1) := do_32 DX8_tested_6
theorem dX8_tested_7 : decode cX8_tested 7 = .ok (.aload_n 1, 1) := do_2b DX8_tested_7
theorem dX8_tested_8 : decode cX8_tested 8 = .ok (.iconst 1, 1) := do_04 DX8_tested_8
theorem dX8_tested_9 : decode cX8_tested 9 = .ok (.aaload, 1) := do_32 DX8_tested_9
theorem dX8_tested_10 : decode cX8_tested 10 = .ok (.invokestatic 185, 3) := do_b8 DX8_tested_10
theorem dX8_tested_13 : decode cX8_tested 13 = .ok (.ireturn, 1) := do_ac DX8_tested_13
theorem dX8_tested_14 : decode cX8_tested 14 = .ok (.iload_n 2, 1) := do_1c DX8_tested_14
theorem dX8_tested_15 : decode cX8_tested 15 = .ok (.iconst 1, 1) := do_04 DX8_tested_15
theorem dX8_tested_16 : decode cX8_tested 16 = .ok (.if_icmp .ne 27, 3) := do_a0 DX8_tested_16 (by decide +kernel)
theorem dX8_tested_19 : decode cX8_tested 19 = .ok (.aload_n 1, 1) := do_2b DX8_tested_19
theorem dX8_tested_20 : decode cX8_tested 20 = .ok (.iconst 0, 1) := do_03 DX8_tested_20
theorem dX8_tested_21 : decode cX8_tested 21 = .ok (.aaload, 1) := do_32 DX8_tested_21
theorem dX8_tested_22 : decode cX8_tested 22 = .ok (.aload_n 1, 1) := do_2b DX8_tested_22
theorem dX8_tested_23 : decode cX8_tested 23 = .ok (.iconst 3, 1) := do_06 DX8_tested_23
theorem dX8_tested_24 : decode cX8_tested 24 = .ok (.aaload, 1) := do_32 DX8_tested_24
theorem dX8_tested_25 : decode cX8_tested 25 = .ok (.invokestatic 124, 3) := do_b8 DX8_tested_25
theorem dX8_tested_28 : decode cX8_tested 28 = .ok (.aload_n 1, 1) := do_2b DX8_tested_28
theorem dX8_tested_29 : decode cX8_tested 29 = .ok (.iconst 2, 1) := do_05 DX8_tested_29
theorem dX8_tested_30 : decode cX8_tested 30 = .ok (.aaload, 1) := do_32 DX8_tested_30
theorem dX8_tested_31 : decode cX8_tested 31 = .ok (.aload_n 1, 1) := do_2b DX8_tested_31
theorem dX8_tested_32 : decode cX8_tested 32 = .ok (.iconst 1, 1) := do_04 DX8_tested_32
theorem dX8_tested_33 : decode cX8_tested 33 = .ok (.aaload, 1) := do_32 DX8_tested_33
theorem dX8_tested_34 : decode cX8_tested 34 = .ok (.invokestatic 124, 3) := do_b8 DX8_tested_34
theorem dX8_tested_37 : decode cX8_tested 37 = .ok (.invokestatic 127, 3) := do_b8 DX8_tested_37
theorem dX8_tested_40 : decode cX8_tested 40 = .ok (.goto 13, 3) := do_a7 DX8_tested_40 (by decide +kernel)
theorem dX8_tested_43 : decode cX8_tested 43 = .ok (.iload_n 0, 1) := do_1a DX8_tested_43
theorem dX8_tested_44 : decode cX8_tested 44 = .ok (.aload_n 1, 1) := do_2b DX8_tested_44
theorem dX8_tested_45 : decode cX8_tested 45 = .ok (.iconst 0, 1) := do_03 DX8_tested_45
theorem dX8_tested_46 : decode cX8_tested 46 = .ok (.aaload, 1) := do_32 DX8_tested_46
theorem dX8_tested_47 : decode cX8_tested 47 = .ok (.aload_n 1, 1) := do_2b DX8_tested_47
theorem dX8_tested_48 : decode cX8_tested 48 = .ok (.iconst 1, 1) := do_04 DX8_tested_48
theorem dX8_tested_49 : decode cX8_tested 49 = .ok (.aaload, 1) := do_32 DX8_tested_49
theorem dX8_tested_50 : decode cX8_tested 50 = .ok (.invokestatic 188, 3) := do_b8 DX8_tested_50
theorem dX8_tested_53 : decode cX8_tested 53 = .ok (.invokestatic 181, 3) := do_b8 DX8_tested_53
theorem dX8_tested_56 : decode cX8_tested 56 = .ok (.l2i, 1) := do_88 DX8_tested_56
theorem dX8_tested_57 : decode cX8_tested 57 = .ok (.ireturn, 1) := do_ac DX8_tested_57
def TX8_test_54 : List UInt8 := []
def TX8_test_53 : List UInt8 := 172 :: TX8_test_54
def TX8_test_50 : List UInt8 := 184 :: 0 :: 192 :: TX8_test_53
def TX8_test_49 : List UInt8 := 28 :: TX8_test_50
def TX8_test_46 : List UInt8 := 182 :: 0 :: 167 :: TX8_test_49
def TX8_test_45 : List UInt8 := 27 :: TX8_test_46
def TX8_test_44 : List UInt8 := 42 :: TX8_test_45
def TX8_test_43 : List UInt8 := 46 :: TX8_test_44
def TX8_test_42 : List UInt8 := 27 :: TX8_test_43
def TX8_test_39 : List UInt8 := 180 :: 0 :: 9 :: TX8_test_42
def TX8_test_38 : List UInt8 := 42 :: TX8_test_39
def TX8_test_35 : List UInt8 := 167 :: 0 :: 18 :: TX8_test_38
def TX8_test_34 : List UInt8 := 3 :: TX8_test_35
def TX8_test_31 : List UInt8 := 153 :: 0 :: 7 :: TX8_test_34
def TX8_test_28 : List UInt8 := 182 :: 0 :: 45 :: TX8_test_31
def TX8_test_27 : List UInt8 := 5 :: TX8_test_28
def TX8_test_26 : List UInt8 := 3 :: TX8_test_27
def TX8_test_23 : List UInt8 := 167 :: 0 :: 4 :: TX8_test_26
def TX8_test_22 : List UInt8 := 4 :: TX8_test_23
def TX8_test_19 : List UInt8 := 154 :: 0 :: 7 :: TX8_test_22
def TX8_test_16 : List UInt8 := 184 :: 0 :: 49 :: TX8_test_19
def TX8_test_15 : List UInt8 := 5 :: TX8_test_16
def TX8_test_14 : List UInt8 := 3 :: TX8_test_15
def TX8_test_13 : List UInt8 := 28 :: TX8_test_14
def TX8_test_12 : List UInt8 := 42 :: TX8_test_13
def TX8_test_9 : List UInt8 := 154 :: 0 :: 25 :: TX8_test_12
def TX8_test_6 : List UInt8 := 182 :: 0 :: 149 :: TX8_test_9
def TX8_test_5 : List UInt8 := 4 :: TX8_test_6
def TX8_test_2 : List UInt8 := 184 :: 0 :: 145 :: TX8_test_5
def TX8_test_1 : List UInt8 := 27 :: TX8_test_2
def TX8_test_0 : List UInt8 := 42 :: TX8_test_1
theorem DX8_test_0 : cX8_test.data.toList.drop 0 = TX8_test_0 := by decide +kernel
theorem DX8_test_1 : cX8_test.data.toList.drop 1 = TX8_test_1 := dr1 DX8_test_0
theorem DX8_test_2 : cX8_test.data.toList.drop 2 = TX8_test_2 := dr1 DX8_test_1
theorem DX8_test_5 : cX8_test.data.toList.drop 5 = TX8_test_5 := dr3 DX8_test_2
theorem DX8_test_6 : cX8_test.data.toList.drop 6 = TX8_test_6 := dr1 DX8_test_5
theorem DX8_test_9 : cX8_test.data.toList.drop 9 = TX8_test_9 := dr3 DX8_test_6
theorem DX8_test_12 : cX8_test.data.toList.drop 12 = TX8_test_12 := dr3 DX8_test_9
theorem DX8_test_13 : cX8_test.data.toList.drop 13 = TX8_test_13 := dr1 DX8_test_12
theorem DX8_test_14 : cX8_test.data.toList.drop 14 = TX8_test_14 := dr1 DX8_test_13
theorem DX8_test_15 : cX8_test.data.toList.drop 15 = TX8_test_15 := dr1 DX8_test_14
theorem DX8_test_16 : cX8_test.data.toList.drop 16 = TX8_test_16 := dr1 DX8_test_15
theorem DX8_test_19 : cX8_test.data.toList.drop 19 = TX8_test_19 := dr3 DX8_test_16
theorem DX8_test_22 : cX8_test.data.toList.drop 22 = TX8_test_22 := dr3 DX8_test_19
theorem DX8_test_23 : cX8_test.data.toList.drop 23 = TX8_test_23 := dr1 DX8_test_22
theorem DX8_test_26 : cX8_test.data.toList.drop 26 = TX8_test_26 := dr3 DX8_test_23
theorem DX8_test_27 : cX8_test.data.toList.drop 27 = TX8_test_27 := dr1 DX8_test_26
theorem DX8_test_28 : cX8_test.data.toList.drop 28 = TX8_test_28 := dr1 DX8_test_27
theorem DX8_test_31 : cX8_test.data.toList.drop 31 = TX8_test_31 := dr3 DX8_test_28
theorem DX8_test_34 : cX8_test.data.toList.drop 34 = TX8_test_34 := dr3 DX8_test_31
theorem DX8_test_35 : cX8_test.data.toList.drop 35 = TX8_test_35 := dr1 DX8_test_34
theorem DX8_test_38 : cX8_test.data.toList.drop 38 = TX8_test_38 := dr3 DX8_test_35
theorem DX8_test_39 : cX8_test.data.toList.drop 39 = TX8_test_39 := dr1 DX8_test_38
theorem DX8_test_42 : cX8_test.data.toList.drop 42 = TX8_test_42 := dr3 DX8_test_39
theorem DX8_test_43 : cX8_test.data.toList.drop 43 = TX8_test_43 := dr1 DX8_test_42
theorem DX8_test_44 : cX8_test.data.toList.drop 44 = TX8_test_44 := dr1 DX8_test_43
theorem DX8_test_45 : cX8_test.data.toList.drop 45 = TX8_test_45 := dr1 DX8_test_44
theorem DX8_test_46 : cX8_test.data.toList.drop 46 = TX8_test_46 := dr1 DX8_test_45
theorem DX8_test_49 : cX8_test.data.toList.drop 49 = TX8_test_49 := dr3 DX8_test_46
theorem DX8_test_50 : cX8_test.data.toList.drop 50 = TX8_test_50 := dr1 DX8_test_49
theorem DX8_test_53 : cX8_test.data.toList.drop 53 = TX8_test_53 := dr3 DX8_test_50
theorem dX8_test_0 : decode cX8_test 0 = .ok (.aload_n 0, 1) := do_2a DX8_test_0
theorem dX8_test_1 : decode cX8_test 1 = .ok (.iload_n 1, 1) := do_1b DX8_test_1
theorem dX8_test_2 : decode cX8_test 2 = .ok (.invokestatic 145, 3) := do_b8 DX8_test_2
theorem dX8_test_5 : decode cX8_test 5 = .ok (.iconst 1, 1) := do_04 DX8_test_5
theorem dX8_test_6 : decode cX8_test 6 = .ok (.invokevirtual 149, 3) := do_b6 DX8_test_6
theorem dX8_test_9 : decode cX8_test 9 = .ok (.ifCond .ne 25, 3) := do_9a DX8_test_9 (by decide +kernel)
theorem dX8_test_12 : decode cX8_test 12 = .ok (.aload_n 0, 1) := do_2a DX8_test_12
theorem dX8_test_13 : decode cX8_test 13 = .ok (.iload_n 2, 1) := do_1c DX8_test_13
theorem dX8_test_14 : decode cX8_test 14 = .ok (.iconst 0, 1) := do_03 DX8_test_14
theorem dX8_test_15 : decode cX8_test 15 = .ok (.iconst 2, 1) := do_05 DX8_test_15
theorem dX8_test_16 : decode cX8_test 16 = .ok (.invokestatic 49, 3) := do_b8 DX8_test_16
theorem dX8_test_19 : decode cX8_test 19 = .ok (.ifCond .ne 7, 3) := do_9a DX8_test_19 (by decide +kernel)
theorem dX8_test_22 : decode cX8_test 22 = .ok (.iconst 1, 1) := do_04 DX8_test_22
theorem dX8_test_23 : decode cX8_test 23 = .ok (.goto 4, 3) := do_a7 DX8_test_23 (by decide +kernel)
theorem dX8_test_26 : decode cX8_test 26 = .ok (.iconst 0, 1) := do_03 DX8_test_26
theorem dX8_test_27 : decode cX8_test 27 = .ok (.iconst 2, 1) := do_05 DX8_test_27
theorem dX8_test_28 : decode cX8_test 28 = .ok (.invokevirtual 45, 3) := do_b6 DX8_test_28
theorem dX8_test_31 : decode cX8_test 31 = .ok (.ifCond .eq 7, 3) := do_99 DX8_test_31 (by decide +kernel)
theorem dX8_test_34 : decode cX8_test 34 = .ok (.iconst 0, 1) := do_03 DX8_test_34
theorem dX8_test_35 : decode cX8_test 35 = .ok (.goto 18, 3) := do_a7 DX8_test_35 (by decide +kernel)
theorem dX8_test_38 : decode cX8_test 38 = .ok (.aload_n 0, 1) := do_2a DX8_test_38
theorem dX8_test_39 : decode cX8_test 39 = .ok (.getfield 9, 3) := do_b4 DX8_test_39
theorem dX8_test_42 : decode cX8_test 42 = .ok (.iload_n 1, 1) := do_1b DX8_test_42
theorem dX8_test_43 : decode cX8_test 43 = .ok (.iaload, 1) := do_2e DX8_test_43
theorem dX8_test_44 : decode cX8_test 44 = .ok (.aload_n 0, 1) := do_2a DX8_test_44
theorem dX8_test_45 : decode cX8_test 45 = .ok (.iload_n 1, 1) := do_1b DX8_test_45
theorem dX8_test_46 : decode cX8_test 46 = .ok (.invokevirtual 167, 3) := do_b6 DX8_test_46
theorem dX8_test_49 : decode cX8_test 49 = .ok (.iload_n 2, 1) := do_1c DX8_test_49
theorem dX8_test_50 : decode cX8_test 50 = .ok (.invokestatic 192, 3) := do_b8 DX8_test_50
theorem dX8_test_53 : decode cX8_test 53 = .ok (.ireturn, 1) := do_ac DX8_test_53
def TX8_walkBits_56 : List UInt8 := []
def TX8_walkBits_55 : List UInt8 := 172 :: TX8_walkBits_56
def TX8_walkBits_52 : List UInt8 := 184 :: 0 :: 121 :: TX8_walkBits_55
def TX8_walkBits_51 : List UInt8 := 29 :: TX8_walkBits_52
def TX8_walkBits_50 : List UInt8 := 50 :: TX8_walkBits_51
def TX8_walkBits_49 : List UInt8 := 4 :: TX8_walkBits_50
def TX8_walkBits_46 : List UInt8 := 167 :: 0 :: 4 :: TX8_walkBits_49
def TX8_walkBits_45 : List UInt8 := 3 :: TX8_walkBits_46
def TX8_walkBits_42 : List UInt8 := 153 :: 0 :: 7 :: TX8_walkBits_45
def TX8_walkBits_41 : List UInt8 := 28 :: TX8_walkBits_42
def TX8_walkBits_38 : List UInt8 := 182 :: 0 :: 167 :: TX8_walkBits_41
def TX8_walkBits_37 : List UInt8 := 27 :: TX8_walkBits_38
def TX8_walkBits_36 : List UInt8 := 42 :: TX8_walkBits_37
def TX8_walkBits_35 : List UInt8 := 172 :: TX8_walkBits_36
def TX8_walkBits_34 : List UInt8 := 3 :: TX8_walkBits_35
def TX8_walkBits_31 : List UInt8 := 153 :: 0 :: 5 :: TX8_walkBits_34
def TX8_walkBits_28 : List UInt8 := 182 :: 0 :: 45 :: TX8_walkBits_31
def TX8_walkBits_27 : List UInt8 := 5 :: TX8_walkBits_28
def TX8_walkBits_26 : List UInt8 := 3 :: TX8_walkBits_27
def TX8_walkBits_23 : List UInt8 := 167 :: 0 :: 4 :: TX8_walkBits_26
def TX8_walkBits_22 : List UInt8 := 4 :: TX8_walkBits_23
def TX8_walkBits_19 : List UInt8 := 154 :: 0 :: 7 :: TX8_walkBits_22
def TX8_walkBits_16 : List UInt8 := 184 :: 0 :: 49 :: TX8_walkBits_19
def TX8_walkBits_15 : List UInt8 := 5 :: TX8_walkBits_16
def TX8_walkBits_14 : List UInt8 := 3 :: TX8_walkBits_15
def TX8_walkBits_13 : List UInt8 := 29 :: TX8_walkBits_14
def TX8_walkBits_12 : List UInt8 := 42 :: TX8_walkBits_13
def TX8_walkBits_9 : List UInt8 := 154 :: 0 :: 25 :: TX8_walkBits_12
def TX8_walkBits_6 : List UInt8 := 182 :: 0 :: 149 :: TX8_walkBits_9
def TX8_walkBits_5 : List UInt8 := 4 :: TX8_walkBits_6
def TX8_walkBits_2 : List UInt8 := 184 :: 0 :: 145 :: TX8_walkBits_5
def TX8_walkBits_1 : List UInt8 := 27 :: TX8_walkBits_2
def TX8_walkBits_0 : List UInt8 := 42 :: TX8_walkBits_1
theorem DX8_walkBits_0 : cX8_walkBits.data.toList.drop 0 = TX8_walkBits_0 := by decide +kernel
theorem DX8_walkBits_1 : cX8_walkBits.data.toList.drop 1 = TX8_walkBits_1 := dr1 DX8_walkBits_0
theorem DX8_walkBits_2 : cX8_walkBits.data.toList.drop 2 = TX8_walkBits_2 := dr1 DX8_walkBits_1
theorem DX8_walkBits_5 : cX8_walkBits.data.toList.drop 5 = TX8_walkBits_5 := dr3 DX8_walkBits_2
theorem DX8_walkBits_6 : cX8_walkBits.data.toList.drop 6 = TX8_walkBits_6 := dr1 DX8_walkBits_5
theorem DX8_walkBits_9 : cX8_walkBits.data.toList.drop 9 = TX8_walkBits_9 := dr3 DX8_walkBits_6
theorem DX8_walkBits_12 : cX8_walkBits.data.toList.drop 12 = TX8_walkBits_12 := dr3 DX8_walkBits_9
theorem DX8_walkBits_13 : cX8_walkBits.data.toList.drop 13 = TX8_walkBits_13 := dr1 DX8_walkBits_12
theorem DX8_walkBits_14 : cX8_walkBits.data.toList.drop 14 = TX8_walkBits_14 := dr1 DX8_walkBits_13
theorem DX8_walkBits_15 : cX8_walkBits.data.toList.drop 15 = TX8_walkBits_15 := dr1 DX8_walkBits_14
theorem DX8_walkBits_16 : cX8_walkBits.data.toList.drop 16 = TX8_walkBits_16 := dr1 DX8_walkBits_15
theorem DX8_walkBits_19 : cX8_walkBits.data.toList.drop 19 = TX8_walkBits_19 := dr3 DX8_walkBits_16
theorem DX8_walkBits_22 : cX8_walkBits.data.toList.drop 22 = TX8_walkBits_22 := dr3 DX8_walkBits_19
theorem DX8_walkBits_23 : cX8_walkBits.data.toList.drop 23 = TX8_walkBits_23 := dr1 DX8_walkBits_22
theorem DX8_walkBits_26 : cX8_walkBits.data.toList.drop 26 = TX8_walkBits_26 := dr3 DX8_walkBits_23
theorem DX8_walkBits_27 : cX8_walkBits.data.toList.drop 27 = TX8_walkBits_27 := dr1 DX8_walkBits_26
theorem DX8_walkBits_28 : cX8_walkBits.data.toList.drop 28 = TX8_walkBits_28 := dr1 DX8_walkBits_27
theorem DX8_walkBits_31 : cX8_walkBits.data.toList.drop 31 = TX8_walkBits_31 := dr3 DX8_walkBits_28
theorem DX8_walkBits_34 : cX8_walkBits.data.toList.drop 34 = TX8_walkBits_34 := dr3 DX8_walkBits_31
theorem DX8_walkBits_35 : cX8_walkBits.data.toList.drop 35 = TX8_walkBits_35 := dr1 DX8_walkBits_34
theorem DX8_walkBits_36 : cX8_walkBits.data.toList.drop 36 = TX8_walkBits_36 := dr1 DX8_walkBits_35
theorem DX8_walkBits_37 : cX8_walkBits.data.toList.drop 37 = TX8_walkBits_37 := dr1 DX8_walkBits_36
theorem DX8_walkBits_38 : cX8_walkBits.data.toList.drop 38 = TX8_walkBits_38 := dr1 DX8_walkBits_37
theorem DX8_walkBits_41 : cX8_walkBits.data.toList.drop 41 = TX8_walkBits_41 := dr3 DX8_walkBits_38
theorem DX8_walkBits_42 : cX8_walkBits.data.toList.drop 42 = TX8_walkBits_42 := dr1 DX8_walkBits_41
theorem DX8_walkBits_45 : cX8_walkBits.data.toList.drop 45 = TX8_walkBits_45 := dr3 DX8_walkBits_42
theorem DX8_walkBits_46 : cX8_walkBits.data.toList.drop 46 = TX8_walkBits_46 := dr1 DX8_walkBits_45
theorem DX8_walkBits_49 : cX8_walkBits.data.toList.drop 49 = TX8_walkBits_49 := dr3 DX8_walkBits_46
theorem DX8_walkBits_50 : cX8_walkBits.data.toList.drop 50 = TX8_walkBits_50 := dr1 DX8_walkBits_49
theorem DX8_walkBits_51 : cX8_walkBits.data.toList.drop 51 = TX8_walkBits_51 := dr1 DX8_walkBits_50
theorem DX8_walkBits_52 : cX8_walkBits.data.toList.drop 52 = TX8_walkBits_52 := dr1 DX8_walkBits_51
theorem DX8_walkBits_55 : cX8_walkBits.data.toList.drop 55 = TX8_walkBits_55 := dr3 DX8_walkBits_52
theorem dX8_walkBits_0 : decode cX8_walkBits 0 = .ok (.aload_n 0, 1) := do_2a DX8_walkBits_0
theorem dX8_walkBits_1 : decode cX8_walkBits 1 = .ok (.iload_n 1, 1) := do_1b DX8_walkBits_1
theorem dX8_walkBits_2 : decode cX8_walkBits 2 = .ok (.invokestatic 145, 3) := do_b8 DX8_walkBits_2
theorem dX8_walkBits_5 : decode cX8_walkBits 5 = .ok (.iconst 1, 1) := do_04 DX8_walkBits_5
theorem dX8_walkBits_6 : decode cX8_walkBits 6 = .ok (.invokevirtual 149, 3) := do_b6 DX8_walkBits_6
theorem dX8_walkBits_9 : decode cX8_walkBits 9 = .ok (.ifCond .ne 25, 3) := do_9a DX8_walkBits_9 (by decide +kernel)
theorem dX8_walkBits_12 : decode cX8_walkBits 12 = .ok (.aload_n 0, 1) := do_2a DX8_walkBits_12
theorem dX8_walkBits_13 : decode cX8_walkBits 13 = .ok (.iload_n 3, 1) := do_1d DX8_walkBits_13
theorem dX8_walkBits_14 : decode cX8_walkBits 14 = .ok (.iconst 0, 1) := do_03 DX8_walkBits_14
theorem dX8_walkBits_15 : decode cX8_walkBits 15 = .ok (.iconst 2, 1) := do_05 DX8_walkBits_15
theorem dX8_walkBits_16 : decode cX8_walkBits 16 = .ok (.invokestatic 49, 3) := do_b8 DX8_walkBits_16
theorem dX8_walkBits_19 : decode cX8_walkBits 19 = .ok (.ifCond .ne 7, 3) := do_9a DX8_walkBits_19 (by decide +kernel)
theorem dX8_walkBits_22 : decode cX8_walkBits 22 = .ok (.iconst 1, 1) := do_04 DX8_walkBits_22
theorem dX8_walkBits_23 : decode cX8_walkBits 23 = .ok (.goto 4, 3) := do_a7 DX8_walkBits_23 (by decide +kernel)
theorem dX8_walkBits_26 : decode cX8_walkBits 26 = .ok (.iconst 0, 1) := do_03 DX8_walkBits_26
theorem dX8_walkBits_27 : decode cX8_walkBits 27 = .ok (.iconst 2, 1) := do_05 DX8_walkBits_27
theorem dX8_walkBits_28 : decode cX8_walkBits 28 = .ok (.invokevirtual 45, 3) := do_b6 DX8_walkBits_28
theorem dX8_walkBits_31 : decode cX8_walkBits 31 = .ok (.ifCond .eq 5, 3) := do_99 DX8_walkBits_31 (by decide +kernel)
theorem dX8_walkBits_34 : decode cX8_walkBits 34 = .ok (.iconst 0, 1) := do_03 DX8_walkBits_34
theorem dX8_walkBits_35 : decode cX8_walkBits 35 = .ok (.ireturn, 1) := do_ac DX8_walkBits_35
theorem dX8_walkBits_36 : decode cX8_walkBits 36 = .ok (.aload_n 0, 1) := do_2a DX8_walkBits_36
theorem dX8_walkBits_37 : decode cX8_walkBits 37 = .ok (.iload_n 1, 1) := do_1b DX8_walkBits_37
theorem dX8_walkBits_38 : decode cX8_walkBits 38 = .ok (.invokevirtual 167, 3) := do_b6 DX8_walkBits_38
theorem dX8_walkBits_41 : decode cX8_walkBits 41 = .ok (.iload_n 2, 1) := do_1c DX8_walkBits_41
theorem dX8_walkBits_42 : decode cX8_walkBits 42 = .ok (.ifCond .eq 7, 3) := do_99 DX8_walkBits_42 (by decide +kernel)
theorem dX8_walkBits_45 : decode cX8_walkBits 45 = .ok (.iconst 0, 1) := do_03 DX8_walkBits_45
theorem dX8_walkBits_46 : decode cX8_walkBits 46 = .ok (.goto 4, 3) := do_a7 DX8_walkBits_46 (by decide +kernel)
theorem dX8_walkBits_49 : decode cX8_walkBits 49 = .ok (.iconst 1, 1) := do_04 DX8_walkBits_49
theorem dX8_walkBits_50 : decode cX8_walkBits 50 = .ok (.aaload, 1) := do_32 DX8_walkBits_50
theorem dX8_walkBits_51 : decode cX8_walkBits 51 = .ok (.iload_n 3, 1) := do_1d DX8_walkBits_51
theorem dX8_walkBits_52 : decode cX8_walkBits 52 = .ok (.invokestatic 121, 3) := do_b8 DX8_walkBits_52
theorem dX8_walkBits_55 : decode cX8_walkBits 55 = .ok (.ireturn, 1) := do_ac DX8_walkBits_55
def TX8_bit_57 : List UInt8 := []
def TX8_bit_56 : List UInt8 := 172 :: TX8_bit_57
def TX8_bit_53 : List UInt8 := 184 :: 0 :: 117 :: TX8_bit_56
def TX8_bit_52 : List UInt8 := 29 :: TX8_bit_53
def TX8_bit_51 : List UInt8 := 50 :: TX8_bit_52
def TX8_bit_50 : List UInt8 := 4 :: TX8_bit_51
def TX8_bit_47 : List UInt8 := 167 :: 0 :: 4 :: TX8_bit_50
def TX8_bit_46 : List UInt8 := 3 :: TX8_bit_47
def TX8_bit_43 : List UInt8 := 153 :: 0 :: 7 :: TX8_bit_46
def TX8_bit_42 : List UInt8 := 28 :: TX8_bit_43
def TX8_bit_39 : List UInt8 := 182 :: 0 :: 167 :: TX8_bit_42
def TX8_bit_38 : List UInt8 := 27 :: TX8_bit_39
def TX8_bit_37 : List UInt8 := 42 :: TX8_bit_38
def TX8_bit_36 : List UInt8 := 172 :: TX8_bit_37
def TX8_bit_35 : List UInt8 := 3 :: TX8_bit_36
def TX8_bit_32 : List UInt8 := 153 :: 0 :: 5 :: TX8_bit_35
def TX8_bit_29 : List UInt8 := 182 :: 0 :: 45 :: TX8_bit_32
def TX8_bit_28 : List UInt8 := 5 :: TX8_bit_29
def TX8_bit_27 : List UInt8 := 3 :: TX8_bit_28
def TX8_bit_24 : List UInt8 := 167 :: 0 :: 4 :: TX8_bit_27
def TX8_bit_23 : List UInt8 := 4 :: TX8_bit_24
def TX8_bit_20 : List UInt8 := 154 :: 0 :: 7 :: TX8_bit_23
def TX8_bit_17 : List UInt8 := 184 :: 0 :: 49 :: TX8_bit_20
def TX8_bit_15 : List UInt8 := 16 :: 119 :: TX8_bit_17
def TX8_bit_14 : List UInt8 := 3 :: TX8_bit_15
def TX8_bit_13 : List UInt8 := 29 :: TX8_bit_14
def TX8_bit_12 : List UInt8 := 42 :: TX8_bit_13
def TX8_bit_9 : List UInt8 := 154 :: 0 :: 26 :: TX8_bit_12
def TX8_bit_6 : List UInt8 := 182 :: 0 :: 149 :: TX8_bit_9
def TX8_bit_5 : List UInt8 := 4 :: TX8_bit_6
def TX8_bit_2 : List UInt8 := 184 :: 0 :: 145 :: TX8_bit_5
def TX8_bit_1 : List UInt8 := 27 :: TX8_bit_2
def TX8_bit_0 : List UInt8 := 42 :: TX8_bit_1
theorem DX8_bit_0 : cX8_bit.data.toList.drop 0 = TX8_bit_0 := by decide +kernel
theorem DX8_bit_1 : cX8_bit.data.toList.drop 1 = TX8_bit_1 := dr1 DX8_bit_0
theorem DX8_bit_2 : cX8_bit.data.toList.drop 2 = TX8_bit_2 := dr1 DX8_bit_1
theorem DX8_bit_5 : cX8_bit.data.toList.drop 5 = TX8_bit_5 := dr3 DX8_bit_2
theorem DX8_bit_6 : cX8_bit.data.toList.drop 6 = TX8_bit_6 := dr1 DX8_bit_5
theorem DX8_bit_9 : cX8_bit.data.toList.drop 9 = TX8_bit_9 := dr3 DX8_bit_6
theorem DX8_bit_12 : cX8_bit.data.toList.drop 12 = TX8_bit_12 := dr3 DX8_bit_9
theorem DX8_bit_13 : cX8_bit.data.toList.drop 13 = TX8_bit_13 := dr1 DX8_bit_12
theorem DX8_bit_14 : cX8_bit.data.toList.drop 14 = TX8_bit_14 := dr1 DX8_bit_13
theorem DX8_bit_15 : cX8_bit.data.toList.drop 15 = TX8_bit_15 := dr1 DX8_bit_14
theorem DX8_bit_17 : cX8_bit.data.toList.drop 17 = TX8_bit_17 := dr2 DX8_bit_15
theorem DX8_bit_20 : cX8_bit.data.toList.drop 20 = TX8_bit_20 := dr3 DX8_bit_17
theorem DX8_bit_23 : cX8_bit.data.toList.drop 23 = TX8_bit_23 := dr3 DX8_bit_20
theorem DX8_bit_24 : cX8_bit.data.toList.drop 24 = TX8_bit_24 := dr1 DX8_bit_23
theorem DX8_bit_27 : cX8_bit.data.toList.drop 27 = TX8_bit_27 := dr3 DX8_bit_24
theorem DX8_bit_28 : cX8_bit.data.toList.drop 28 = TX8_bit_28 := dr1 DX8_bit_27
theorem DX8_bit_29 : cX8_bit.data.toList.drop 29 = TX8_bit_29 := dr1 DX8_bit_28
theorem DX8_bit_32 : cX8_bit.data.toList.drop 32 = TX8_bit_32 := dr3 DX8_bit_29
theorem DX8_bit_35 : cX8_bit.data.toList.drop 35 = TX8_bit_35 := dr3 DX8_bit_32
theorem DX8_bit_36 : cX8_bit.data.toList.drop 36 = TX8_bit_36 := dr1 DX8_bit_35
theorem DX8_bit_37 : cX8_bit.data.toList.drop 37 = TX8_bit_37 := dr1 DX8_bit_36
theorem DX8_bit_38 : cX8_bit.data.toList.drop 38 = TX8_bit_38 := dr1 DX8_bit_37
theorem DX8_bit_39 : cX8_bit.data.toList.drop 39 = TX8_bit_39 := dr1 DX8_bit_38
theorem DX8_bit_42 : cX8_bit.data.toList.drop 42 = TX8_bit_42 := dr3 DX8_bit_39
theorem DX8_bit_43 : cX8_bit.data.toList.drop 43 = TX8_bit_43 := dr1 DX8_bit_42
theorem DX8_bit_46 : cX8_bit.data.toList.drop 46 = TX8_bit_46 := dr3 DX8_bit_43
theorem DX8_bit_47 : cX8_bit.data.toList.drop 47 = TX8_bit_47 := dr1 DX8_bit_46
theorem DX8_bit_50 : cX8_bit.data.toList.drop 50 = TX8_bit_50 := dr3 DX8_bit_47
theorem DX8_bit_51 : cX8_bit.data.toList.drop 51 = TX8_bit_51 := dr1 DX8_bit_50
theorem DX8_bit_52 : cX8_bit.data.toList.drop 52 = TX8_bit_52 := dr1 DX8_bit_51
theorem DX8_bit_53 : cX8_bit.data.toList.drop 53 = TX8_bit_53 := dr1 DX8_bit_52
theorem DX8_bit_56 : cX8_bit.data.toList.drop 56 = TX8_bit_56 := dr3 DX8_bit_53
theorem dX8_bit_0 : decode cX8_bit 0 = .ok (.aload_n 0, 1) := do_2a DX8_bit_0
theorem dX8_bit_1 : decode cX8_bit 1 = .ok (.iload_n 1, 1) := do_1b DX8_bit_1
theorem dX8_bit_2 : decode cX8_bit 2 = .ok (.invokestatic 145, 3) := do_b8 DX8_bit_2
theorem dX8_bit_5 : decode cX8_bit 5 = .ok (.iconst 1, 1) := do_04 DX8_bit_5
theorem dX8_bit_6 : decode cX8_bit 6 = .ok (.invokevirtual 149, 3) := do_b6 DX8_bit_6
theorem dX8_bit_9 : decode cX8_bit 9 = .ok (.ifCond .ne 26, 3) := do_9a DX8_bit_9 (by decide +kernel)
theorem dX8_bit_12 : decode cX8_bit 12 = .ok (.aload_n 0, 1) := do_2a DX8_bit_12
theorem dX8_bit_13 : decode cX8_bit 13 = .ok (.iload_n 3, 1) := do_1d DX8_bit_13
theorem dX8_bit_14 : decode cX8_bit 14 = .ok (.iconst 0, 1) := do_03 DX8_bit_14
theorem dX8_bit_15 : decode cX8_bit 15 = .ok (.bipush 119, 2) := do_10 DX8_bit_15 (by decide +kernel)
theorem dX8_bit_17 : decode cX8_bit 17 = .ok (.invokestatic 49, 3) := do_b8 DX8_bit_17
theorem dX8_bit_20 : decode cX8_bit 20 = .ok (.ifCond .ne 7, 3) := do_9a DX8_bit_20 (by decide +kernel)
theorem dX8_bit_23 : decode cX8_bit 23 = .ok (.iconst 1, 1) := do_04 DX8_bit_23
theorem dX8_bit_24 : decode cX8_bit 24 = .ok (.goto 4, 3) := do_a7 DX8_bit_24 (by decide +kernel)
theorem dX8_bit_27 : decode cX8_bit 27 = .ok (.iconst 0, 1) := do_03 DX8_bit_27
theorem dX8_bit_28 : decode cX8_bit 28 = .ok (.iconst 2, 1) := do_05 DX8_bit_28
theorem dX8_bit_29 : decode cX8_bit 29 = .ok (.invokevirtual 45, 3) := do_b6 DX8_bit_29
theorem dX8_bit_32 : decode cX8_bit 32 = .ok (.ifCond .eq 5, 3) := do_99 DX8_bit_32 (by decide +kernel)
theorem dX8_bit_35 : decode cX8_bit 35 = .ok (.iconst 0, 1) := do_03 DX8_bit_35
theorem dX8_bit_36 : decode cX8_bit 36 = .ok (.ireturn, 1) := do_ac DX8_bit_36
theorem dX8_bit_37 : decode cX8_bit 37 = .ok (.aload_n 0, 1) := do_2a DX8_bit_37
theorem dX8_bit_38 : decode cX8_bit 38 = .ok (.iload_n 1, 1) := do_1b DX8_bit_38
theorem dX8_bit_39 : decode cX8_bit 39 = .ok (.invokevirtual 167, 3) := do_b6 DX8_bit_39
theorem dX8_bit_42 : decode cX8_bit 42 = .ok (.iload_n 2, 1) := do_1c DX8_bit_42
theorem dX8_bit_43 : decode cX8_bit 43 = .ok (.ifCond .eq 7, 3) := do_99 DX8_bit_43 (by decide +kernel)
theorem dX8_bit_46 : decode cX8_bit 46 = .ok (.iconst 0, 1) := do_03 DX8_bit_46
theorem dX8_bit_47 : decode cX8_bit 47 = .ok (.goto 4, 3) := do_a7 DX8_bit_47 (by decide +kernel)
theorem dX8_bit_50 : decode cX8_bit 50 = .ok (.iconst 1, 1) := do_04 DX8_bit_50
theorem dX8_bit_51 : decode cX8_bit 51 = .ok (.aaload, 1) := do_32 DX8_bit_51
theorem dX8_bit_52 : decode cX8_bit 52 = .ok (.iload_n 3, 1) := do_1d DX8_bit_52
theorem dX8_bit_53 : decode cX8_bit 53 = .ok (.invokestatic 117, 3) := do_b8 DX8_bit_53
theorem dX8_bit_56 : decode cX8_bit 56 = .ok (.ireturn, 1) := do_ac DX8_bit_56
def TX8_isRead_45 : List UInt8 := []
def TX8_isRead_44 : List UInt8 := 172 :: TX8_isRead_45
def TX8_isRead_43 : List UInt8 := 3 :: TX8_isRead_44
def TX8_isRead_40 : List UInt8 := 167 :: 0 :: 4 :: TX8_isRead_43
def TX8_isRead_39 : List UInt8 := 4 :: TX8_isRead_40
def TX8_isRead_36 : List UInt8 := 154 :: 0 :: 7 :: TX8_isRead_39
def TX8_isRead_33 : List UInt8 := 182 :: 0 :: 45 :: TX8_isRead_36
def TX8_isRead_32 : List UInt8 := 5 :: TX8_isRead_33
def TX8_isRead_31 : List UInt8 := 3 :: TX8_isRead_32
def TX8_isRead_28 : List UInt8 := 167 :: 0 :: 4 :: TX8_isRead_31
def TX8_isRead_27 : List UInt8 := 4 :: TX8_isRead_28
def TX8_isRead_24 : List UInt8 := 154 :: 0 :: 7 :: TX8_isRead_27
def TX8_isRead_21 : List UInt8 := 184 :: 0 :: 49 :: TX8_isRead_24
def TX8_isRead_19 : List UInt8 := 16 :: 16 :: TX8_isRead_21
def TX8_isRead_18 : List UInt8 := 5 :: TX8_isRead_19
def TX8_isRead_17 : List UInt8 := 28 :: TX8_isRead_18
def TX8_isRead_14 : List UInt8 := 153 :: 0 :: 17 :: TX8_isRead_17
def TX8_isRead_13 : List UInt8 := 28 :: TX8_isRead_14
def TX8_isRead_12 : List UInt8 := 42 :: TX8_isRead_13
def TX8_isRead_9 : List UInt8 := 154 :: 0 :: 34 :: TX8_isRead_12
def TX8_isRead_6 : List UInt8 := 182 :: 0 :: 149 :: TX8_isRead_9
def TX8_isRead_5 : List UInt8 := 4 :: TX8_isRead_6
def TX8_isRead_2 : List UInt8 := 184 :: 0 :: 145 :: TX8_isRead_5
def TX8_isRead_1 : List UInt8 := 27 :: TX8_isRead_2
def TX8_isRead_0 : List UInt8 := 42 :: TX8_isRead_1
theorem DX8_isRead_0 : cX8_isRead.data.toList.drop 0 = TX8_isRead_0 := by decide +kernel
theorem DX8_isRead_1 : cX8_isRead.data.toList.drop 1 = TX8_isRead_1 := dr1 DX8_isRead_0
theorem DX8_isRead_2 : cX8_isRead.data.toList.drop 2 = TX8_isRead_2 := dr1 DX8_isRead_1
theorem DX8_isRead_5 : cX8_isRead.data.toList.drop 5 = TX8_isRead_5 := dr3 DX8_isRead_2
theorem DX8_isRead_6 : cX8_isRead.data.toList.drop 6 = TX8_isRead_6 := dr1 DX8_isRead_5
theorem DX8_isRead_9 : cX8_isRead.data.toList.drop 9 = TX8_isRead_9 := dr3 DX8_isRead_6
theorem DX8_isRead_12 : cX8_isRead.data.toList.drop 12 = TX8_isRead_12 := dr3 DX8_isRead_9
theorem DX8_isRead_13 : cX8_isRead.data.toList.drop 13 = TX8_isRead_13 := dr1 DX8_isRead_12
theorem DX8_isRead_14 : cX8_isRead.data.toList.drop 14 = TX8_isRead_14 := dr1 DX8_isRead_13
theorem DX8_isRead_17 : cX8_isRead.data.toList.drop 17 = TX8_isRead_17 := dr3 DX8_isRead_14
theorem DX8_isRead_18 : cX8_isRead.data.toList.drop 18 = TX8_isRead_18 := dr1 DX8_isRead_17
theorem DX8_isRead_19 : cX8_isRead.data.toList.drop 19 = TX8_isRead_19 := dr1 DX8_isRead_18
theorem DX8_isRead_21 : cX8_isRead.data.toList.drop 21 = TX8_isRead_21 := dr2 DX8_isRead_19
theorem DX8_isRead_24 : cX8_isRead.data.toList.drop 24 = TX8_isRead_24 := dr3 DX8_isRead_21
theorem DX8_isRead_27 : cX8_isRead.data.toList.drop 27 = TX8_isRead_27 := dr3 DX8_isRead_24
theorem DX8_isRead_28 : cX8_isRead.data.toList.drop 28 = TX8_isRead_28 := dr1 DX8_isRead_27
theorem DX8_isRead_31 : cX8_isRead.data.toList.drop 31 = TX8_isRead_31 := dr3 DX8_isRead_28
theorem DX8_isRead_32 : cX8_isRead.data.toList.drop 32 = TX8_isRead_32 := dr1 DX8_isRead_31
theorem DX8_isRead_33 : cX8_isRead.data.toList.drop 33 = TX8_isRead_33 := dr1 DX8_isRead_32
theorem DX8_isRead_36 : cX8_isRead.data.toList.drop 36 = TX8_isRead_36 := dr3 DX8_isRead_33
theorem DX8_isRead_39 : cX8_isRead.data.toList.drop 39 = TX8_isRead_39 := dr3 DX8_isRead_36
theorem DX8_isRead_40 : cX8_isRead.data.toList.drop 40 = TX8_isRead_40 := dr1 DX8_isRead_39
theorem DX8_isRead_43 : cX8_isRead.data.toList.drop 43 = TX8_isRead_43 := dr3 DX8_isRead_40
theorem DX8_isRead_44 : cX8_isRead.data.toList.drop 44 = TX8_isRead_44 := dr1 DX8_isRead_43
theorem dX8_isRead_0 : decode cX8_isRead 0 = .ok (.aload_n 0, 1) := do_2a DX8_isRead_0
theorem dX8_isRead_1 : decode cX8_isRead 1 = .ok (.iload_n 1, 1) := do_1b DX8_isRead_1
theorem dX8_isRead_2 : decode cX8_isRead 2 = .ok (.invokestatic 145, 3) := do_b8 DX8_isRead_2
theorem dX8_isRead_5 : decode cX8_isRead 5 = .ok (.iconst 1, 1) := do_04 DX8_isRead_5
theorem dX8_isRead_6 : decode cX8_isRead 6 = .ok (.invokevirtual 149, 3) := do_b6 DX8_isRead_6
theorem dX8_isRead_9 : decode cX8_isRead 9 = .ok (.ifCond .ne 34, 3) := do_9a DX8_isRead_9 (by decide +kernel)
theorem dX8_isRead_12 : decode cX8_isRead 12 = .ok (.aload_n 0, 1) := do_2a DX8_isRead_12
theorem dX8_isRead_13 : decode cX8_isRead 13 = .ok (.iload_n 2, 1) := do_1c DX8_isRead_13
theorem dX8_isRead_14 : decode cX8_isRead 14 = .ok (.ifCond .eq 17, 3) := do_99 DX8_isRead_14 (by decide +kernel)
theorem dX8_isRead_17 : decode cX8_isRead 17 = .ok (.iload_n 2, 1) := do_1c DX8_isRead_17
theorem dX8_isRead_18 : decode cX8_isRead 18 = .ok (.iconst 2, 1) := do_05 DX8_isRead_18
theorem dX8_isRead_19 : decode cX8_isRead 19 = .ok (.bipush 16, 2) := do_10 DX8_isRead_19 (by decide +kernel)
theorem dX8_isRead_21 : decode cX8_isRead 21 = .ok (.invokestatic 49, 3) := do_b8 DX8_isRead_21
theorem dX8_isRead_24 : decode cX8_isRead 24 = .ok (.ifCond .ne 7, 3) := do_9a DX8_isRead_24 (by decide +kernel)
theorem dX8_isRead_27 : decode cX8_isRead 27 = .ok (.iconst 1, 1) := do_04 DX8_isRead_27
theorem dX8_isRead_28 : decode cX8_isRead 28 = .ok (.goto 4, 3) := do_a7 DX8_isRead_28 (by decide +kernel)
theorem dX8_isRead_31 : decode cX8_isRead 31 = .ok (.iconst 0, 1) := do_03 DX8_isRead_31
theorem dX8_isRead_32 : decode cX8_isRead 32 = .ok (.iconst 2, 1) := do_05 DX8_isRead_32
theorem dX8_isRead_33 : decode cX8_isRead 33 = .ok (.invokevirtual 45, 3) := do_b6 DX8_isRead_33
theorem dX8_isRead_36 : decode cX8_isRead 36 = .ok (.ifCond .ne 7, 3) := do_9a DX8_isRead_36 (by decide +kernel)
theorem dX8_isRead_39 : decode cX8_isRead 39 = .ok (.iconst 1, 1) := do_04 DX8_isRead_39
theorem dX8_isRead_40 : decode cX8_isRead 40 = .ok (.goto 4, 3) := do_a7 DX8_isRead_40 (by decide +kernel)
theorem dX8_isRead_43 : decode cX8_isRead 43 = .ok (.iconst 0, 1) := do_03 DX8_isRead_43
theorem dX8_isRead_44 : decode cX8_isRead 44 = .ok (.ireturn, 1) := do_ac DX8_isRead_44
def TX8_isNear_144 : List UInt8 := []
def TX8_isNear_143 : List UInt8 := 172 :: TX8_isNear_144
def TX8_isNear_142 : List UInt8 := 3 :: TX8_isNear_143
def TX8_isNear_139 : List UInt8 := 167 :: 0 :: 4 :: TX8_isNear_142
def TX8_isNear_138 : List UInt8 := 4 :: TX8_isNear_139
def TX8_isNear_135 : List UInt8 := 156 :: 0 :: 7 :: TX8_isNear_138
def TX8_isNear_132 : List UInt8 := 184 :: 0 :: 199 :: TX8_isNear_135
def TX8_isNear_129 : List UInt8 := 184 :: 0 :: 124 :: TX8_isNear_132
def TX8_isNear_126 : List UInt8 := 184 :: 0 :: 124 :: TX8_isNear_129
def TX8_isNear_125 : List UInt8 := 50 :: TX8_isNear_126
def TX8_isNear_124 : List UInt8 := 4 :: TX8_isNear_125
def TX8_isNear_123 : List UInt8 := 45 :: TX8_isNear_124
def TX8_isNear_122 : List UInt8 := 50 :: TX8_isNear_123
def TX8_isNear_121 : List UInt8 := 4 :: TX8_isNear_122
def TX8_isNear_120 : List UInt8 := 45 :: TX8_isNear_121
def TX8_isNear_117 : List UInt8 := 184 :: 0 :: 20 :: TX8_isNear_120
def TX8_isNear_116 : List UInt8 := 133 :: TX8_isNear_117
def TX8_isNear_115 : List UInt8 := 46 :: TX8_isNear_116
def TX8_isNear_114 : List UInt8 := 27 :: TX8_isNear_115
def TX8_isNear_111 : List UInt8 := 180 :: 0 :: 9 :: TX8_isNear_114
def TX8_isNear_110 : List UInt8 := 42 :: TX8_isNear_111
def TX8_isNear_107 : List UInt8 := 184 :: 0 :: 124 :: TX8_isNear_110
def TX8_isNear_105 : List UInt8 := 25 :: 5 :: TX8_isNear_107
def TX8_isNear_103 : List UInt8 := 25 :: 5 :: TX8_isNear_105
def TX8_isNear_100 : List UInt8 := 155 :: 0 :: 38 :: TX8_isNear_103
def TX8_isNear_99 : List UInt8 := 46 :: TX8_isNear_100
def TX8_isNear_98 : List UInt8 := 3 :: TX8_isNear_99
def TX8_isNear_96 : List UInt8 := 25 :: 5 :: TX8_isNear_98
def TX8_isNear_94 : List UInt8 := 58 :: 5 :: TX8_isNear_96
def TX8_isNear_91 : List UInt8 := 184 :: 0 :: 127 :: TX8_isNear_94
def TX8_isNear_90 : List UInt8 := 50 :: TX8_isNear_91
def TX8_isNear_89 : List UInt8 := 3 :: TX8_isNear_90
def TX8_isNear_88 : List UInt8 := 45 :: TX8_isNear_89
def TX8_isNear_85 : List UInt8 := 184 :: 0 :: 124 :: TX8_isNear_88
def TX8_isNear_84 : List UInt8 := 50 :: TX8_isNear_85
def TX8_isNear_83 : List UInt8 := 4 :: TX8_isNear_84
def TX8_isNear_80 : List UInt8 := 184 :: 0 :: 134 :: TX8_isNear_83
def TX8_isNear_79 : List UInt8 := 96 :: TX8_isNear_80
def TX8_isNear_78 : List UInt8 := 4 :: TX8_isNear_79
def TX8_isNear_77 : List UInt8 := 46 :: TX8_isNear_78
def TX8_isNear_76 : List UInt8 := 27 :: TX8_isNear_77
def TX8_isNear_73 : List UInt8 := 180 :: 0 :: 13 :: TX8_isNear_76
def TX8_isNear_72 : List UInt8 := 42 :: TX8_isNear_73
def TX8_isNear_71 : List UInt8 := 46 :: TX8_isNear_72
def TX8_isNear_70 : List UInt8 := 27 :: TX8_isNear_71
def TX8_isNear_67 : List UInt8 := 180 :: 0 :: 9 :: TX8_isNear_70
def TX8_isNear_66 : List UInt8 := 42 :: TX8_isNear_67
def TX8_isNear_63 : List UInt8 := 184 :: 0 :: 20 :: TX8_isNear_66
def TX8_isNear_62 : List UInt8 := 133 :: TX8_isNear_63
def TX8_isNear_61 : List UInt8 := 104 :: TX8_isNear_62
def TX8_isNear_59 : List UInt8 := 21 :: 4 :: TX8_isNear_61
def TX8_isNear_58 : List UInt8 := 28 :: TX8_isNear_59
def TX8_isNear_56 : List UInt8 := 54 :: 4 :: TX8_isNear_58
def TX8_isNear_53 : List UInt8 := 184 :: 0 :: 196 :: TX8_isNear_56
def TX8_isNear_50 : List UInt8 := 184 :: 0 :: 192 :: TX8_isNear_53
def TX8_isNear_49 : List UInt8 := 5 :: TX8_isNear_50
def TX8_isNear_48 : List UInt8 := 45 :: TX8_isNear_49
def TX8_isNear_47 : List UInt8 := 46 :: TX8_isNear_48
def TX8_isNear_46 : List UInt8 := 27 :: TX8_isNear_47
def TX8_isNear_43 : List UInt8 := 180 :: 0 :: 9 :: TX8_isNear_46
def TX8_isNear_42 : List UInt8 := 42 :: TX8_isNear_43
def TX8_isNear_41 : List UInt8 := 78 :: TX8_isNear_42
def TX8_isNear_38 : List UInt8 := 182 :: 0 :: 167 :: TX8_isNear_41
def TX8_isNear_37 : List UInt8 := 27 :: TX8_isNear_38
def TX8_isNear_36 : List UInt8 := 42 :: TX8_isNear_37
def TX8_isNear_35 : List UInt8 := 172 :: TX8_isNear_36
def TX8_isNear_34 : List UInt8 := 3 :: TX8_isNear_35
def TX8_isNear_31 : List UInt8 := 153 :: 0 :: 5 :: TX8_isNear_34
def TX8_isNear_28 : List UInt8 := 182 :: 0 :: 45 :: TX8_isNear_31
def TX8_isNear_27 : List UInt8 := 5 :: TX8_isNear_28
def TX8_isNear_26 : List UInt8 := 3 :: TX8_isNear_27
def TX8_isNear_23 : List UInt8 := 167 :: 0 :: 4 :: TX8_isNear_26
def TX8_isNear_22 : List UInt8 := 4 :: TX8_isNear_23
def TX8_isNear_19 : List UInt8 := 154 :: 0 :: 7 :: TX8_isNear_22
def TX8_isNear_16 : List UInt8 := 184 :: 0 :: 49 :: TX8_isNear_19
def TX8_isNear_15 : List UInt8 := 6 :: TX8_isNear_16
def TX8_isNear_14 : List UInt8 := 4 :: TX8_isNear_15
def TX8_isNear_13 : List UInt8 := 28 :: TX8_isNear_14
def TX8_isNear_12 : List UInt8 := 42 :: TX8_isNear_13
def TX8_isNear_9 : List UInt8 := 154 :: 0 :: 25 :: TX8_isNear_12
def TX8_isNear_6 : List UInt8 := 182 :: 0 :: 149 :: TX8_isNear_9
def TX8_isNear_5 : List UInt8 := 4 :: TX8_isNear_6
def TX8_isNear_2 : List UInt8 := 184 :: 0 :: 145 :: TX8_isNear_5
def TX8_isNear_1 : List UInt8 := 27 :: TX8_isNear_2
def TX8_isNear_0 : List UInt8 := 42 :: TX8_isNear_1
theorem DX8_isNear_0 : cX8_isNear.data.toList.drop 0 = TX8_isNear_0 := by decide +kernel
theorem DX8_isNear_1 : cX8_isNear.data.toList.drop 1 = TX8_isNear_1 := dr1 DX8_isNear_0
theorem DX8_isNear_2 : cX8_isNear.data.toList.drop 2 = TX8_isNear_2 := dr1 DX8_isNear_1
theorem DX8_isNear_5 : cX8_isNear.data.toList.drop 5 = TX8_isNear_5 := dr3 DX8_isNear_2
theorem DX8_isNear_6 : cX8_isNear.data.toList.drop 6 = TX8_isNear_6 := dr1 DX8_isNear_5
theorem DX8_isNear_9 : cX8_isNear.data.toList.drop 9 = TX8_isNear_9 := dr3 DX8_isNear_6
theorem DX8_isNear_12 : cX8_isNear.data.toList.drop 12 = TX8_isNear_12 := dr3 DX8_isNear_9
theorem DX8_isNear_13 : cX8_isNear.data.toList.drop 13 = TX8_isNear_13 := dr1 DX8_isNear_12
theorem DX8_isNear_14 : cX8_isNear.data.toList.drop 14 = TX8_isNear_14 := dr1 DX8_isNear_13
theorem DX8_isNear_15 : cX8_isNear.data.toList.drop 15 = TX8_isNear_15 := dr1 DX8_isNear_14
theorem DX8_isNear_16 : cX8_isNear.data.toList.drop 16 = TX8_isNear_16 := dr1 DX8_isNear_15
theorem DX8_isNear_19 : cX8_isNear.data.toList.drop 19 = TX8_isNear_19 := dr3 DX8_isNear_16
theorem DX8_isNear_22 : cX8_isNear.data.toList.drop 22 = TX8_isNear_22 := dr3 DX8_isNear_19
theorem DX8_isNear_23 : cX8_isNear.data.toList.drop 23 = TX8_isNear_23 := dr1 DX8_isNear_22
theorem DX8_isNear_26 : cX8_isNear.data.toList.drop 26 = TX8_isNear_26 := dr3 DX8_isNear_23
theorem DX8_isNear_27 : cX8_isNear.data.toList.drop 27 = TX8_isNear_27 := dr1 DX8_isNear_26
theorem DX8_isNear_28 : cX8_isNear.data.toList.drop 28 = TX8_isNear_28 := dr1 DX8_isNear_27
theorem DX8_isNear_31 : cX8_isNear.data.toList.drop 31 = TX8_isNear_31 := dr3 DX8_isNear_28
theorem DX8_isNear_34 : cX8_isNear.data.toList.drop 34 = TX8_isNear_34 := dr3 DX8_isNear_31
theorem DX8_isNear_35 : cX8_isNear.data.toList.drop 35 = TX8_isNear_35 := dr1 DX8_isNear_34
theorem DX8_isNear_36 : cX8_isNear.data.toList.drop 36 = TX8_isNear_36 := dr1 DX8_isNear_35
theorem DX8_isNear_37 : cX8_isNear.data.toList.drop 37 = TX8_isNear_37 := dr1 DX8_isNear_36
theorem DX8_isNear_38 : cX8_isNear.data.toList.drop 38 = TX8_isNear_38 := dr1 DX8_isNear_37
theorem DX8_isNear_41 : cX8_isNear.data.toList.drop 41 = TX8_isNear_41 := dr3 DX8_isNear_38
theorem DX8_isNear_42 : cX8_isNear.data.toList.drop 42 = TX8_isNear_42 := dr1 DX8_isNear_41
theorem DX8_isNear_43 : cX8_isNear.data.toList.drop 43 = TX8_isNear_43 := dr1 DX8_isNear_42
theorem DX8_isNear_46 : cX8_isNear.data.toList.drop 46 = TX8_isNear_46 := dr3 DX8_isNear_43
theorem DX8_isNear_47 : cX8_isNear.data.toList.drop 47 = TX8_isNear_47 := dr1 DX8_isNear_46
theorem DX8_isNear_48 : cX8_isNear.data.toList.drop 48 = TX8_isNear_48 := dr1 DX8_isNear_47
theorem DX8_isNear_49 : cX8_isNear.data.toList.drop 49 = TX8_isNear_49 := dr1 DX8_isNear_48
theorem DX8_isNear_50 : cX8_isNear.data.toList.drop 50 = TX8_isNear_50 := dr1 DX8_isNear_49
theorem DX8_isNear_53 : cX8_isNear.data.toList.drop 53 = TX8_isNear_53 := dr3 DX8_isNear_50
theorem DX8_isNear_56 : cX8_isNear.data.toList.drop 56 = TX8_isNear_56 := dr3 DX8_isNear_53
theorem DX8_isNear_58 : cX8_isNear.data.toList.drop 58 = TX8_isNear_58 := dr2 DX8_isNear_56
theorem DX8_isNear_59 : cX8_isNear.data.toList.drop 59 = TX8_isNear_59 := dr1 DX8_isNear_58
theorem DX8_isNear_61 : cX8_isNear.data.toList.drop 61 = TX8_isNear_61 := dr2 DX8_isNear_59
theorem DX8_isNear_62 : cX8_isNear.data.toList.drop 62 = TX8_isNear_62 := dr1 DX8_isNear_61
theorem DX8_isNear_63 : cX8_isNear.data.toList.drop 63 = TX8_isNear_63 := dr1 DX8_isNear_62
theorem DX8_isNear_66 : cX8_isNear.data.toList.drop 66 = TX8_isNear_66 := dr3 DX8_isNear_63
theorem DX8_isNear_67 : cX8_isNear.data.toList.drop 67 = TX8_isNear_67 := dr1 DX8_isNear_66
theorem DX8_isNear_70 : cX8_isNear.data.toList.drop 70 = TX8_isNear_70 := dr3 DX8_isNear_67
theorem DX8_isNear_71 : cX8_isNear.data.toList.drop 71 = TX8_isNear_71 := dr1 DX8_isNear_70
theorem DX8_isNear_72 : cX8_isNear.data.toList.drop 72 = TX8_isNear_72 := dr1 DX8_isNear_71
theorem DX8_isNear_73 : cX8_isNear.data.toList.drop 73 = TX8_isNear_73 := dr1 DX8_isNear_72
theorem DX8_isNear_76 : cX8_isNear.data.toList.drop 76 = TX8_isNear_76 := dr3 DX8_isNear_73
theorem DX8_isNear_77 : cX8_isNear.data.toList.drop 77 = TX8_isNear_77 := dr1 DX8_isNear_76
theorem DX8_isNear_78 : cX8_isNear.data.toList.drop 78 = TX8_isNear_78 := dr1 DX8_isNear_77
theorem DX8_isNear_79 : cX8_isNear.data.toList.drop 79 = TX8_isNear_79 := dr1 DX8_isNear_78
theorem DX8_isNear_80 : cX8_isNear.data.toList.drop 80 = TX8_isNear_80 := dr1 DX8_isNear_79
theorem DX8_isNear_83 : cX8_isNear.data.toList.drop 83 = TX8_isNear_83 := dr3 DX8_isNear_80
theorem DX8_isNear_84 : cX8_isNear.data.toList.drop 84 = TX8_isNear_84 := dr1 DX8_isNear_83
theorem DX8_isNear_85 : cX8_isNear.data.toList.drop 85 = TX8_isNear_85 := dr1 DX8_isNear_84
theorem DX8_isNear_88 : cX8_isNear.data.toList.drop 88 = TX8_isNear_88 := dr3 DX8_isNear_85
theorem DX8_isNear_89 : cX8_isNear.data.toList.drop 89 = TX8_isNear_89 := dr1 DX8_isNear_88
theorem DX8_isNear_90 : cX8_isNear.data.toList.drop 90 = TX8_isNear_90 := dr1 DX8_isNear_89
theorem DX8_isNear_91 : cX8_isNear.data.toList.drop 91 = TX8_isNear_91 := dr1 DX8_isNear_90
theorem DX8_isNear_94 : cX8_isNear.data.toList.drop 94 = TX8_isNear_94 := dr3 DX8_isNear_91
theorem DX8_isNear_96 : cX8_isNear.data.toList.drop 96 = TX8_isNear_96 := dr2 DX8_isNear_94
theorem DX8_isNear_98 : cX8_isNear.data.toList.drop 98 = TX8_isNear_98 := dr2 DX8_isNear_96
theorem DX8_isNear_99 : cX8_isNear.data.toList.drop 99 = TX8_isNear_99 := dr1 DX8_isNear_98
theorem DX8_isNear_100 : cX8_isNear.data.toList.drop 100 = TX8_isNear_100 := dr1 DX8_isNear_99
theorem DX8_isNear_103 : cX8_isNear.data.toList.drop 103 = TX8_isNear_103 := dr3 DX8_isNear_100
theorem DX8_isNear_105 : cX8_isNear.data.toList.drop 105 = TX8_isNear_105 := dr2 DX8_isNear_103
theorem DX8_isNear_107 : cX8_isNear.data.toList.drop 107 = TX8_isNear_107 := dr2 DX8_isNear_105
theorem DX8_isNear_110 : cX8_isNear.data.toList.drop 110 = TX8_isNear_110 := dr3 DX8_isNear_107
theorem DX8_isNear_111 : cX8_isNear.data.toList.drop 111 = TX8_isNear_111 := dr1 DX8_isNear_110
theorem DX8_isNear_114 : cX8_isNear.data.toList.drop 114 = TX8_isNear_114 := dr3 DX8_isNear_111
theorem DX8_isNear_115 : cX8_isNear.data.toList.drop 115 = TX8_isNear_115 := dr1 DX8_isNear_114
theorem DX8_isNear_116 : cX8_isNear.data.toList.drop 116 = TX8_isNear_116 := dr1 DX8_isNear_115
theorem DX8_isNear_117 : cX8_isNear.data.toList.drop 117 = TX8_isNear_117 := dr1 DX8_isNear_116
theorem DX8_isNear_120 : cX8_isNear.data.toList.drop 120 = TX8_isNear_120 := dr3 DX8_isNear_117
theorem DX8_isNear_121 : cX8_isNear.data.toList.drop 121 = TX8_isNear_121 := dr1 DX8_isNear_120
theorem DX8_isNear_122 : cX8_isNear.data.toList.drop 122 = TX8_isNear_122 := dr1 DX8_isNear_121
theorem DX8_isNear_123 : cX8_isNear.data.toList.drop 123 = TX8_isNear_123 := dr1 DX8_isNear_122
theorem DX8_isNear_124 : cX8_isNear.data.toList.drop 124 = TX8_isNear_124 := dr1 DX8_isNear_123
theorem DX8_isNear_125 : cX8_isNear.data.toList.drop 125 = TX8_isNear_125 := dr1 DX8_isNear_124
theorem DX8_isNear_126 : cX8_isNear.data.toList.drop 126 = TX8_isNear_126 := dr1 DX8_isNear_125
theorem DX8_isNear_129 : cX8_isNear.data.toList.drop 129 = TX8_isNear_129 := dr3 DX8_isNear_126
theorem DX8_isNear_132 : cX8_isNear.data.toList.drop 132 = TX8_isNear_132 := dr3 DX8_isNear_129
theorem DX8_isNear_135 : cX8_isNear.data.toList.drop 135 = TX8_isNear_135 := dr3 DX8_isNear_132
theorem DX8_isNear_138 : cX8_isNear.data.toList.drop 138 = TX8_isNear_138 := dr3 DX8_isNear_135
theorem DX8_isNear_139 : cX8_isNear.data.toList.drop 139 = TX8_isNear_139 := dr1 DX8_isNear_138
theorem DX8_isNear_142 : cX8_isNear.data.toList.drop 142 = TX8_isNear_142 := dr3 DX8_isNear_139
theorem DX8_isNear_143 : cX8_isNear.data.toList.drop 143 = TX8_isNear_143 := dr1 DX8_isNear_142
theorem dX8_isNear_0 : decode cX8_isNear 0 = .ok (.aload_n 0, 1) := do_2a DX8_isNear_0
theorem dX8_isNear_1 : decode cX8_isNear 1 = .ok (.iload_n 1, 1) := do_1b DX8_isNear_1
theorem dX8_isNear_2 : decode cX8_isNear 2 = .ok (.invokestatic 145, 3) := do_b8 DX8_isNear_2
theorem dX8_isNear_5 : decode cX8_isNear 5 = .ok (.iconst 1, 1) := do_04 DX8_isNear_5
theorem dX8_isNear_6 : decode cX8_isNear 6 = .ok (.invokevirtual 149, 3) := do_b6 DX8_isNear_6
theorem dX8_isNear_9 : decode cX8_isNear 9 = .ok (.ifCond .ne 25, 3) := do_9a DX8_isNear_9 (by decide +kernel)
theorem dX8_isNear_12 : decode cX8_isNear 12 = .ok (.aload_n 0, 1) := do_2a DX8_isNear_12
theorem dX8_isNear_13 : decode cX8_isNear 13 = .ok (.iload_n 2, 1) := do_1c DX8_isNear_13
theorem dX8_isNear_14 : decode cX8_isNear 14 = .ok (.iconst 1, 1) := do_04 DX8_isNear_14
theorem dX8_isNear_15 : decode cX8_isNear 15 = .ok (.iconst 3, 1) := do_06 DX8_isNear_15
theorem dX8_isNear_16 : decode cX8_isNear 16 = .ok (.invokestatic 49, 3) := do_b8 DX8_isNear_16
theorem dX8_isNear_19 : decode cX8_isNear 19 = .ok (.ifCond .ne 7, 3) := do_9a DX8_isNear_19 (by decide +kernel)
theorem dX8_isNear_22 : decode cX8_isNear 22 = .ok (.iconst 1, 1) := do_04 DX8_isNear_22
theorem dX8_isNear_23 : decode cX8_isNear 23 = .ok (.goto 4, 3) := do_a7 DX8_isNear_23 (by decide +kernel)
theorem dX8_isNear_26 : decode cX8_isNear 26 = .ok (.iconst 0, 1) := do_03 DX8_isNear_26
theorem dX8_isNear_27 : decode cX8_isNear 27 = .ok (.iconst 2, 1) := do_05 DX8_isNear_27
theorem dX8_isNear_28 : decode cX8_isNear 28 = .ok (.invokevirtual 45, 3) := do_b6 DX8_isNear_28
theorem dX8_isNear_31 : decode cX8_isNear 31 = .ok (.ifCond .eq 5, 3) := do_99 DX8_isNear_31 (by decide +kernel)
theorem dX8_isNear_34 : decode cX8_isNear 34 = .ok (.iconst 0, 1) := do_03 DX8_isNear_34
theorem dX8_isNear_35 : decode cX8_isNear 35 = .ok (.ireturn, 1) := do_ac DX8_isNear_35
theorem dX8_isNear_36 : decode cX8_isNear 36 = .ok (.aload_n 0, 1) := do_2a DX8_isNear_36
theorem dX8_isNear_37 : decode cX8_isNear 37 = .ok (.iload_n 1, 1) := do_1b DX8_isNear_37
theorem dX8_isNear_38 : decode cX8_isNear 38 = .ok (.invokevirtual 167, 3) := do_b6 DX8_isNear_38
theorem dX8_isNear_41 : decode cX8_isNear 41 = .ok (.astore_n 3, 1) := do_4e DX8_isNear_41
theorem dX8_isNear_42 : decode cX8_isNear 42 = .ok (.aload_n 0, 1) := do_2a DX8_isNear_42
theorem dX8_isNear_43 : decode cX8_isNear 43 = .ok (.getfield 9, 3) := do_b4 DX8_isNear_43
theorem dX8_isNear_46 : decode cX8_isNear 46 = .ok (.iload_n 1, 1) := do_1b DX8_isNear_46
theorem dX8_isNear_47 : decode cX8_isNear 47 = .ok (.iaload, 1) := do_2e DX8_isNear_47
theorem dX8_isNear_48 : decode cX8_isNear 48 = .ok (.aload_n 3, 1) := do_2d DX8_isNear_48
theorem dX8_isNear_49 : decode cX8_isNear 49 = .ok (.iconst 2, 1) := do_05 DX8_isNear_49
theorem dX8_isNear_50 : decode cX8_isNear 50 = .ok (.invokestatic 192, 3) := do_b8 DX8_isNear_50
theorem dX8_isNear_53 : decode cX8_isNear 53 = .ok (.invokestatic 196, 3) := do_b8 DX8_isNear_53
theorem dX8_isNear_56 : decode cX8_isNear 56 = .ok (.istore 4, 2) := do_36 DX8_isNear_56
theorem dX8_isNear_58 : decode cX8_isNear 58 = .ok (.iload_n 2, 1) := do_1c DX8_isNear_58
theorem dX8_isNear_59 : decode cX8_isNear 59 = .ok (.iload 4, 2) := do_15 DX8_isNear_59
theorem dX8_isNear_61 : decode cX8_isNear 61 = .ok (.imul, 1) := do_68 DX8_isNear_61
theorem dX8_isNear_62 : decode cX8_isNear 62 = .ok (.i2l, 1) := do_85 DX8_isNear_62
theorem dX8_isNear_63 : decode cX8_isNear 63 = .ok (.invokestatic 20, 3) := do_b8 DX8_isNear_63
theorem dX8_isNear_66 : decode cX8_isNear 66 = .ok (.aload_n 0, 1) := do_2a DX8_isNear_66
theorem dX8_isNear_67 : decode cX8_isNear 67 = .ok (.getfield 9, 3) := do_b4 DX8_isNear_67
theorem dX8_isNear_70 : decode cX8_isNear 70 = .ok (.iload_n 1, 1) := do_1b DX8_isNear_70
theorem dX8_isNear_71 : decode cX8_isNear 71 = .ok (.iaload, 1) := do_2e DX8_isNear_71
theorem dX8_isNear_72 : decode cX8_isNear 72 = .ok (.aload_n 0, 1) := do_2a DX8_isNear_72
theorem dX8_isNear_73 : decode cX8_isNear 73 = .ok (.getfield 13, 3) := do_b4 DX8_isNear_73
theorem dX8_isNear_76 : decode cX8_isNear 76 = .ok (.iload_n 1, 1) := do_1b DX8_isNear_76
theorem dX8_isNear_77 : decode cX8_isNear 77 = .ok (.iaload, 1) := do_2e DX8_isNear_77
theorem dX8_isNear_78 : decode cX8_isNear 78 = .ok (.iconst 1, 1) := do_04 DX8_isNear_78
theorem dX8_isNear_79 : decode cX8_isNear 79 = .ok (.iadd, 1) := do_60 DX8_isNear_79
theorem dX8_isNear_80 : decode cX8_isNear 80 = .ok (.invokestatic 134, 3) := do_b8 DX8_isNear_80
theorem dX8_isNear_83 : decode cX8_isNear 83 = .ok (.iconst 1, 1) := do_04 DX8_isNear_83
theorem dX8_isNear_84 : decode cX8_isNear 84 = .ok (.aaload, 1) := do_32 DX8_isNear_84
theorem dX8_isNear_85 : decode cX8_isNear 85 = .ok (.invokestatic 124, 3) := do_b8 DX8_isNear_85
theorem dX8_isNear_88 : decode cX8_isNear 88 = .ok (.aload_n 3, 1) := do_2d DX8_isNear_88
theorem dX8_isNear_89 : decode cX8_isNear 89 = .ok (.iconst 0, 1) := do_03 DX8_isNear_89
theorem dX8_isNear_90 : decode cX8_isNear 90 = .ok (.aaload, 1) := do_32 DX8_isNear_90
theorem dX8_isNear_91 : decode cX8_isNear 91 = .ok (.invokestatic 127, 3) := do_b8 DX8_isNear_91
theorem dX8_isNear_94 : decode cX8_isNear 94 = .ok (.astore 5, 2) := do_3a DX8_isNear_94
theorem dX8_isNear_96 : decode cX8_isNear 96 = .ok (.aload 5, 2) := do_19 DX8_isNear_96
theorem dX8_isNear_98 : decode cX8_isNear 98 = .ok (.iconst 0, 1) := do_03 DX8_isNear_98
theorem dX8_isNear_99 : decode cX8_isNear 99 = .ok (.iaload, 1) := do_2e DX8_isNear_99
theorem dX8_isNear_100 : decode cX8_isNear 100 = .ok (.ifCond .lt 38, 3) := do_9b DX8_isNear_100 (by decide +kernel)
theorem dX8_isNear_103 : decode cX8_isNear 103 = .ok (.aload 5, 2) := do_19 DX8_isNear_103
theorem dX8_isNear_105 : decode cX8_isNear 105 = .ok (.aload 5, 2) := do_19 DX8_isNear_105
theorem dX8_isNear_107 : decode cX8_isNear 107 = .ok (.invokestatic 124, 3) := do_b8 DX8_isNear_107
theorem dX8_isNear_110 : decode cX8_isNear 110 = .ok (.aload_n 0, 1) := do_2a DX8_isNear_110
theorem dX8_isNear_111 : decode cX8_isNear 111 = .ok (.getfield 9, 3) := do_b4 DX8_isNear_111
theorem dX8_isNear_114 : decode cX8_isNear 114 = .ok (.iload_n 1, 1) := do_1b DX8_isNear_114
theorem dX8_isNear_115 : decode cX8_isNear 115 = .ok (.iaload, 1) := do_2e DX8_isNear_115
theorem dX8_isNear_116 : decode cX8_isNear 116 = .ok (.i2l, 1) := do_85 DX8_isNear_116
theorem dX8_isNear_117 : decode cX8_isNear 117 = .ok (.invokestatic 20, 3) := do_b8 DX8_isNear_117
theorem dX8_isNear_120 : decode cX8_isNear 120 = .ok (.aload_n 3, 1) := do_2d DX8_isNear_120
theorem dX8_isNear_121 : decode cX8_isNear 121 = .ok (.iconst 1, 1) := do_04 DX8_isNear_121
theorem dX8_isNear_122 : decode cX8_isNear 122 = .ok (.aaload, 1) := do_32 DX8_isNear_122
theorem dX8_isNear_123 : decode cX8_isNear 123 = .ok (.aload_n 3, 1) := do_2d DX8_isNear_123
theorem dX8_isNear_124 : decode cX8_isNear 124 = .ok (.iconst 1, 1) := do_04 DX8_isNear_124
theorem dX8_isNear_125 : decode cX8_isNear 125 = .ok (.aaload, 1) := do_32 DX8_isNear_125
theorem dX8_isNear_126 : decode cX8_isNear 126 = .ok (.invokestatic 124, 3) := do_b8 DX8_isNear_126
theorem dX8_isNear_129 : decode cX8_isNear 129 = .ok (.invokestatic 124, 3) := do_b8 DX8_isNear_129
theorem dX8_isNear_132 : decode cX8_isNear 132 = .ok (.invokestatic 199, 3) := do_b8 DX8_isNear_132
theorem dX8_isNear_135 : decode cX8_isNear 135 = .ok (.ifCond .ge 7, 3) := do_9c DX8_isNear_135 (by decide +kernel)
theorem dX8_isNear_138 : decode cX8_isNear 138 = .ok (.iconst 1, 1) := do_04 DX8_isNear_138
theorem dX8_isNear_139 : decode cX8_isNear 139 = .ok (.goto 4, 3) := do_a7 DX8_isNear_139 (by decide +kernel)
theorem dX8_isNear_142 : decode cX8_isNear 142 = .ok (.iconst 0, 1) := do_03 DX8_isNear_142
theorem dX8_isNear_143 : decode cX8_isNear 143 = .ok (.ireturn, 1) := do_ac DX8_isNear_143
def TX8_places_81 : List UInt8 := []
def TX8_places_80 : List UInt8 := 176 :: TX8_places_81
def TX8_places_78 : List UInt8 := 25 :: 4 :: TX8_places_80
def TX8_places_75 : List UInt8 := 167 :: 255 :: 200 :: TX8_places_78
def TX8_places_72 : List UInt8 := 132 :: 5 :: 1 :: TX8_places_75
def TX8_places_69 : List UInt8 := 167 :: 255 :: 229 :: TX8_places_72
def TX8_places_68 : List UInt8 := 79 :: TX8_places_69
def TX8_places_67 : List UInt8 := 96 :: TX8_places_68
def TX8_places_66 : List UInt8 := 4 :: TX8_places_67
def TX8_places_65 : List UInt8 := 46 :: TX8_places_66
def TX8_places_64 : List UInt8 := 92 :: TX8_places_65
def TX8_places_62 : List UInt8 := 21 :: 5 :: TX8_places_64
def TX8_places_60 : List UInt8 := 25 :: 4 :: TX8_places_62
def TX8_places_59 : List UInt8 := 78 :: TX8_places_60
def TX8_places_56 : List UInt8 := 184 :: 0 :: 67 :: TX8_places_59
def TX8_places_55 : List UInt8 := 50 :: TX8_places_56
def TX8_places_54 : List UInt8 := 4 :: TX8_places_55
def TX8_places_53 : List UInt8 := 44 :: TX8_places_54
def TX8_places_52 : List UInt8 := 45 :: TX8_places_53
def TX8_places_49 : List UInt8 := 155 :: 0 :: 23 :: TX8_places_52
def TX8_places_46 : List UInt8 := 184 :: 0 :: 199 :: TX8_places_49
def TX8_places_45 : List UInt8 := 50 :: TX8_places_46
def TX8_places_44 : List UInt8 := 4 :: TX8_places_45
def TX8_places_43 : List UInt8 := 44 :: TX8_places_44
def TX8_places_42 : List UInt8 := 45 :: TX8_places_43
def TX8_places_41 : List UInt8 := 78 :: TX8_places_42
def TX8_places_38 : List UInt8 := 184 :: 0 :: 124 :: TX8_places_41
def TX8_places_37 : List UInt8 := 45 :: TX8_places_38
def TX8_places_34 : List UInt8 := 184 :: 0 :: 20 :: TX8_places_37
def TX8_places_31 : List UInt8 := 20 :: 0 :: 202 :: TX8_places_34
def TX8_places_28 : List UInt8 := 158 :: 0 :: 14 :: TX8_places_31
def TX8_places_26 : List UInt8 := 21 :: 5 :: TX8_places_28
def TX8_places_23 : List UInt8 := 162 :: 0 :: 55 :: TX8_places_26
def TX8_places_21 : List UInt8 := 16 :: 17 :: TX8_places_23
def TX8_places_19 : List UInt8 := 21 :: 5 :: TX8_places_21
def TX8_places_17 : List UInt8 := 54 :: 5 :: TX8_places_19
def TX8_places_16 : List UInt8 := 3 :: TX8_places_17
def TX8_places_14 : List UInt8 := 58 :: 4 :: TX8_places_16
def TX8_places_12 : List UInt8 := 188 :: 10 :: TX8_places_14
def TX8_places_10 : List UInt8 := 16 :: 17 :: TX8_places_12
def TX8_places_9 : List UInt8 := 78 :: TX8_places_10
def TX8_places_8 : List UInt8 := 50 :: TX8_places_9
def TX8_places_7 : List UInt8 := 3 :: TX8_places_8
def TX8_places_6 : List UInt8 := 44 :: TX8_places_7
def TX8_places_5 : List UInt8 := 77 :: TX8_places_6
def TX8_places_2 : List UInt8 := 182 :: 0 :: 167 :: TX8_places_5
def TX8_places_1 : List UInt8 := 27 :: TX8_places_2
def TX8_places_0 : List UInt8 := 42 :: TX8_places_1
theorem DX8_places_0 : cX8_places.data.toList.drop 0 = TX8_places_0 := by decide +kernel
theorem DX8_places_1 : cX8_places.data.toList.drop 1 = TX8_places_1 := dr1 DX8_places_0
theorem DX8_places_2 : cX8_places.data.toList.drop 2 = TX8_places_2 := dr1 DX8_places_1
theorem DX8_places_5 : cX8_places.data.toList.drop 5 = TX8_places_5 := dr3 DX8_places_2
theorem DX8_places_6 : cX8_places.data.toList.drop 6 = TX8_places_6 := dr1 DX8_places_5
theorem DX8_places_7 : cX8_places.data.toList.drop 7 = TX8_places_7 := dr1 DX8_places_6
theorem DX8_places_8 : cX8_places.data.toList.drop 8 = TX8_places_8 := dr1 DX8_places_7
theorem DX8_places_9 : cX8_places.data.toList.drop 9 = TX8_places_9 := dr1 DX8_places_8
theorem DX8_places_10 : cX8_places.data.toList.drop 10 = TX8_places_10 := dr1 DX8_places_9
theorem DX8_places_12 : cX8_places.data.toList.drop 12 = TX8_places_12 := dr2 DX8_places_10
theorem DX8_places_14 : cX8_places.data.toList.drop 14 = TX8_places_14 := dr2 DX8_places_12
theorem DX8_places_16 : cX8_places.data.toList.drop 16 = TX8_places_16 := dr2 DX8_places_14
theorem DX8_places_17 : cX8_places.data.toList.drop 17 = TX8_places_17 := dr1 DX8_places_16
theorem DX8_places_19 : cX8_places.data.toList.drop 19 = TX8_places_19 := dr2 DX8_places_17
theorem DX8_places_21 : cX8_places.data.toList.drop 21 = TX8_places_21 := dr2 DX8_places_19
theorem DX8_places_23 : cX8_places.data.toList.drop 23 = TX8_places_23 := dr2 DX8_places_21
theorem DX8_places_26 : cX8_places.data.toList.drop 26 = TX8_places_26 := dr3 DX8_places_23
theorem DX8_places_28 : cX8_places.data.toList.drop 28 = TX8_places_28 := dr2 DX8_places_26
theorem DX8_places_31 : cX8_places.data.toList.drop 31 = TX8_places_31 := dr3 DX8_places_28
theorem DX8_places_34 : cX8_places.data.toList.drop 34 = TX8_places_34 := dr3 DX8_places_31
theorem DX8_places_37 : cX8_places.data.toList.drop 37 = TX8_places_37 := dr3 DX8_places_34
theorem DX8_places_38 : cX8_places.data.toList.drop 38 = TX8_places_38 := dr1 DX8_places_37
theorem DX8_places_41 : cX8_places.data.toList.drop 41 = TX8_places_41 := dr3 DX8_places_38
theorem DX8_places_42 : cX8_places.data.toList.drop 42 = TX8_places_42 := dr1 DX8_places_41
theorem DX8_places_43 : cX8_places.data.toList.drop 43 = TX8_places_43 := dr1 DX8_places_42
theorem DX8_places_44 : cX8_places.data.toList.drop 44 = TX8_places_44 := dr1 DX8_places_43
theorem DX8_places_45 : cX8_places.data.toList.drop 45 = TX8_places_45 := dr1 DX8_places_44
theorem DX8_places_46 : cX8_places.data.toList.drop 46 = TX8_places_46 := dr1 DX8_places_45
theorem DX8_places_49 : cX8_places.data.toList.drop 49 = TX8_places_49 := dr3 DX8_places_46
theorem DX8_places_52 : cX8_places.data.toList.drop 52 = TX8_places_52 := dr3 DX8_places_49
theorem DX8_places_53 : cX8_places.data.toList.drop 53 = TX8_places_53 := dr1 DX8_places_52
theorem DX8_places_54 : cX8_places.data.toList.drop 54 = TX8_places_54 := dr1 DX8_places_53
theorem DX8_places_55 : cX8_places.data.toList.drop 55 = TX8_places_55 := dr1 DX8_places_54
theorem DX8_places_56 : cX8_places.data.toList.drop 56 = TX8_places_56 := dr1 DX8_places_55
theorem DX8_places_59 : cX8_places.data.toList.drop 59 = TX8_places_59 := dr3 DX8_places_56
theorem DX8_places_60 : cX8_places.data.toList.drop 60 = TX8_places_60 := dr1 DX8_places_59
theorem DX8_places_62 : cX8_places.data.toList.drop 62 = TX8_places_62 := dr2 DX8_places_60
theorem DX8_places_64 : cX8_places.data.toList.drop 64 = TX8_places_64 := dr2 DX8_places_62
theorem DX8_places_65 : cX8_places.data.toList.drop 65 = TX8_places_65 := dr1 DX8_places_64
theorem DX8_places_66 : cX8_places.data.toList.drop 66 = TX8_places_66 := dr1 DX8_places_65
theorem DX8_places_67 : cX8_places.data.toList.drop 67 = TX8_places_67 := dr1 DX8_places_66
theorem DX8_places_68 : cX8_places.data.toList.drop 68 = TX8_places_68 := dr1 DX8_places_67
theorem DX8_places_69 : cX8_places.data.toList.drop 69 = TX8_places_69 := dr1 DX8_places_68
theorem DX8_places_72 : cX8_places.data.toList.drop 72 = TX8_places_72 := dr3 DX8_places_69
theorem DX8_places_75 : cX8_places.data.toList.drop 75 = TX8_places_75 := dr3 DX8_places_72
theorem DX8_places_78 : cX8_places.data.toList.drop 78 = TX8_places_78 := dr3 DX8_places_75
theorem DX8_places_80 : cX8_places.data.toList.drop 80 = TX8_places_80 := dr2 DX8_places_78
theorem dX8_places_0 : decode cX8_places 0 = .ok (.aload_n 0, 1) := do_2a DX8_places_0
theorem dX8_places_1 : decode cX8_places 1 = .ok (.iload_n 1, 1) := do_1b DX8_places_1
theorem dX8_places_2 : decode cX8_places 2 = .ok (.invokevirtual 167, 3) := do_b6 DX8_places_2
theorem dX8_places_5 : decode cX8_places 5 = .ok (.astore_n 2, 1) := do_4d DX8_places_5
theorem dX8_places_6 : decode cX8_places 6 = .ok (.aload_n 2, 1) := do_2c DX8_places_6
theorem dX8_places_7 : decode cX8_places 7 = .ok (.iconst 0, 1) := do_03 DX8_places_7
theorem dX8_places_8 : decode cX8_places 8 = .ok (.aaload, 1) := do_32 DX8_places_8
theorem dX8_places_9 : decode cX8_places 9 = .ok (.astore_n 3, 1) := do_4e DX8_places_9
theorem dX8_places_10 : decode cX8_places 10 = .ok (.bipush 17, 2) := do_10 DX8_places_10 (by decide +kernel)
theorem dX8_places_12 : decode cX8_places 12 = .ok (.newarray .int, 2) := by decide +kernel
theorem dX8_places_14 : decode cX8_places 14 = .ok (.astore 4, 2) := do_3a DX8_places_14
theorem dX8_places_16 : decode cX8_places 16 = .ok (.iconst 0, 1) := do_03 DX8_places_16
theorem dX8_places_17 : decode cX8_places 17 = .ok (.istore 5, 2) := do_36 DX8_places_17
theorem dX8_places_19 : decode cX8_places 19 = .ok (.iload 5, 2) := do_15 DX8_places_19
theorem dX8_places_21 : decode cX8_places 21 = .ok (.bipush 17, 2) := do_10 DX8_places_21 (by decide +kernel)
theorem dX8_places_23 : decode cX8_places 23 = .ok (.if_icmp .ge 55, 3) := do_a2 DX8_places_23 (by decide +kernel)
theorem dX8_places_26 : decode cX8_places 26 = .ok (.iload 5, 2) := do_15 DX8_places_26
theorem dX8_places_28 : decode cX8_places 28 = .ok (.ifCond .le 14, 3) := do_9e DX8_places_28 (by decide +kernel)
theorem dX8_places_31 : decode cX8_places 31 = .ok (.ldc2_w 202, 3) := by decide +kernel
theorem dX8_places_34 : decode cX8_places 34 = .ok (.invokestatic 20, 3) := do_b8 DX8_places_34
theorem dX8_places_37 : decode cX8_places 37 = .ok (.aload_n 3, 1) := do_2d DX8_places_37
theorem dX8_places_38 : decode cX8_places 38 = .ok (.invokestatic 124, 3) := do_b8 DX8_places_38
theorem dX8_places_41 : decode cX8_places 41 = .ok (.astore_n 3, 1) := do_4e DX8_places_41
theorem dX8_places_42 : decode cX8_places 42 = .ok (.aload_n 3, 1) := do_2d DX8_places_42
theorem dX8_places_43 : decode cX8_places 43 = .ok (.aload_n 2, 1) := do_2c DX8_places_43
theorem dX8_places_44 : decode cX8_places 44 = .ok (.iconst 1, 1) := do_04 DX8_places_44
theorem dX8_places_45 : decode cX8_places 45 = .ok (.aaload, 1) := do_32 DX8_places_45
theorem dX8_places_46 : decode cX8_places 46 = .ok (.invokestatic 199, 3) := do_b8 DX8_places_46
theorem dX8_places_49 : decode cX8_places 49 = .ok (.ifCond .lt 23, 3) := do_9b DX8_places_49 (by decide +kernel)
theorem dX8_places_52 : decode cX8_places 52 = .ok (.aload_n 3, 1) := do_2d DX8_places_52
theorem dX8_places_53 : decode cX8_places 53 = .ok (.aload_n 2, 1) := do_2c DX8_places_53
theorem dX8_places_54 : decode cX8_places 54 = .ok (.iconst 1, 1) := do_04 DX8_places_54
theorem dX8_places_55 : decode cX8_places 55 = .ok (.aaload, 1) := do_32 DX8_places_55
theorem dX8_places_56 : decode cX8_places 56 = .ok (.invokestatic 67, 3) := do_b8 DX8_places_56
theorem dX8_places_59 : decode cX8_places 59 = .ok (.astore_n 3, 1) := do_4e DX8_places_59
theorem dX8_places_60 : decode cX8_places 60 = .ok (.aload 4, 2) := do_19 DX8_places_60
theorem dX8_places_62 : decode cX8_places 62 = .ok (.iload 5, 2) := do_15 DX8_places_62
theorem dX8_places_64 : decode cX8_places 64 = .ok (.dup2, 1) := do_5c DX8_places_64
theorem dX8_places_65 : decode cX8_places 65 = .ok (.iaload, 1) := do_2e DX8_places_65
theorem dX8_places_66 : decode cX8_places 66 = .ok (.iconst 1, 1) := do_04 DX8_places_66
theorem dX8_places_67 : decode cX8_places 67 = .ok (.iadd, 1) := do_60 DX8_places_67
theorem dX8_places_68 : decode cX8_places 68 = .ok (.iastore, 1) := do_4f DX8_places_68
theorem dX8_places_69 : decode cX8_places 69 = .ok (.goto (-27), 3) := do_a7 DX8_places_69 (by decide +kernel)
theorem dX8_places_72 : decode cX8_places 72 = .ok (.iinc 5 1, 3) := do_84 DX8_places_72
theorem dX8_places_75 : decode cX8_places 75 = .ok (.goto (-56), 3) := do_a7 DX8_places_75 (by decide +kernel)
theorem dX8_places_78 : decode cX8_places 78 = .ok (.aload 4, 2) := do_19 DX8_places_78
theorem dX8_places_80 : decode cX8_places 80 = .ok (.areturn, 1) := do_b0 DX8_places_80
def TX8_joined_34 : List UInt8 := []
def TX8_joined_33 : List UInt8 := 176 :: TX8_joined_34
def TX8_joined_30 : List UInt8 := 182 :: 0 :: 113 :: TX8_joined_33
def TX8_joined_29 : List UInt8 := 44 :: TX8_joined_30
def TX8_joined_26 : List UInt8 := 167 :: 255 :: 240 :: TX8_joined_29
def TX8_joined_23 : List UInt8 := 132 :: 3 :: 1 :: TX8_joined_26
def TX8_joined_22 : List UInt8 := 87 :: TX8_joined_23
def TX8_joined_19 : List UInt8 := 182 :: 0 :: 204 :: TX8_joined_22
def TX8_joined_18 : List UInt8 := 46 :: TX8_joined_19
def TX8_joined_17 : List UInt8 := 29 :: TX8_joined_18
def TX8_joined_16 : List UInt8 := 42 :: TX8_joined_17
def TX8_joined_15 : List UInt8 := 44 :: TX8_joined_16
def TX8_joined_12 : List UInt8 := 163 :: 0 :: 17 :: TX8_joined_15
def TX8_joined_11 : List UInt8 := 27 :: TX8_joined_12
def TX8_joined_10 : List UInt8 := 29 :: TX8_joined_11
def TX8_joined_9 : List UInt8 := 62 :: TX8_joined_10
def TX8_joined_8 : List UInt8 := 3 :: TX8_joined_9
def TX8_joined_7 : List UInt8 := 77 :: TX8_joined_8
def TX8_joined_4 : List UInt8 := 183 :: 0 :: 88 :: TX8_joined_7
def TX8_joined_3 : List UInt8 := 89 :: TX8_joined_4
def TX8_joined_0 : List UInt8 := 187 :: 0 :: 86 :: TX8_joined_3
theorem DX8_joined_0 : cX8_joined.data.toList.drop 0 = TX8_joined_0 := by decide +kernel
theorem DX8_joined_3 : cX8_joined.data.toList.drop 3 = TX8_joined_3 := dr3 DX8_joined_0
theorem DX8_joined_4 : cX8_joined.data.toList.drop 4 = TX8_joined_4 := dr1 DX8_joined_3
theorem DX8_joined_7 : cX8_joined.data.toList.drop 7 = TX8_joined_7 := dr3 DX8_joined_4
theorem DX8_joined_8 : cX8_joined.data.toList.drop 8 = TX8_joined_8 := dr1 DX8_joined_7
theorem DX8_joined_9 : cX8_joined.data.toList.drop 9 = TX8_joined_9 := dr1 DX8_joined_8
theorem DX8_joined_10 : cX8_joined.data.toList.drop 10 = TX8_joined_10 := dr1 DX8_joined_9
theorem DX8_joined_11 : cX8_joined.data.toList.drop 11 = TX8_joined_11 := dr1 DX8_joined_10
theorem DX8_joined_12 : cX8_joined.data.toList.drop 12 = TX8_joined_12 := dr1 DX8_joined_11
theorem DX8_joined_15 : cX8_joined.data.toList.drop 15 = TX8_joined_15 := dr3 DX8_joined_12
theorem DX8_joined_16 : cX8_joined.data.toList.drop 16 = TX8_joined_16 := dr1 DX8_joined_15
theorem DX8_joined_17 : cX8_joined.data.toList.drop 17 = TX8_joined_17 := dr1 DX8_joined_16
theorem DX8_joined_18 : cX8_joined.data.toList.drop 18 = TX8_joined_18 := dr1 DX8_joined_17
theorem DX8_joined_19 : cX8_joined.data.toList.drop 19 = TX8_joined_19 := dr1 DX8_joined_18
theorem DX8_joined_22 : cX8_joined.data.toList.drop 22 = TX8_joined_22 := dr3 DX8_joined_19
theorem DX8_joined_23 : cX8_joined.data.toList.drop 23 = TX8_joined_23 := dr1 DX8_joined_22
theorem DX8_joined_26 : cX8_joined.data.toList.drop 26 = TX8_joined_26 := dr3 DX8_joined_23
theorem DX8_joined_29 : cX8_joined.data.toList.drop 29 = TX8_joined_29 := dr3 DX8_joined_26
theorem DX8_joined_30 : cX8_joined.data.toList.drop 30 = TX8_joined_30 := dr1 DX8_joined_29
theorem DX8_joined_33 : cX8_joined.data.toList.drop 33 = TX8_joined_33 := dr3 DX8_joined_30
theorem dX8_joined_0 : decode cX8_joined 0 = .ok (.new 86, 3) := do_bb DX8_joined_0
theorem dX8_joined_3 : decode cX8_joined 3 = .ok (.dup, 1) := do_59 DX8_joined_3
theorem dX8_joined_4 : decode cX8_joined 4 = .ok (.invokespecial 88, 3) := do_b7 DX8_joined_4
theorem dX8_joined_7 : decode cX8_joined 7 = .ok (.astore_n 2, 1) := do_4d DX8_joined_7
theorem dX8_joined_8 : decode cX8_joined 8 = .ok (.iconst 0, 1) := do_03 DX8_joined_8
theorem dX8_joined_9 : decode cX8_joined 9 = .ok (.istore_n 3, 1) := do_3e DX8_joined_9
theorem dX8_joined_10 : decode cX8_joined 10 = .ok (.iload_n 3, 1) := do_1d DX8_joined_10
theorem dX8_joined_11 : decode cX8_joined 11 = .ok (.iload_n 1, 1) := do_1b DX8_joined_11
theorem dX8_joined_12 : decode cX8_joined 12 = .ok (.if_icmp .gt 17, 3) := do_a3 DX8_joined_12 (by decide +kernel)
theorem dX8_joined_15 : decode cX8_joined 15 = .ok (.aload_n 2, 1) := do_2c DX8_joined_15
theorem dX8_joined_16 : decode cX8_joined 16 = .ok (.aload_n 0, 1) := do_2a DX8_joined_16
theorem dX8_joined_17 : decode cX8_joined 17 = .ok (.iload_n 3, 1) := do_1d DX8_joined_17
theorem dX8_joined_18 : decode cX8_joined 18 = .ok (.iaload, 1) := do_2e DX8_joined_18
theorem dX8_joined_19 : decode cX8_joined 19 = .ok (.invokevirtual 204, 3) := do_b6 DX8_joined_19
theorem dX8_joined_22 : decode cX8_joined 22 = .ok (.pop, 1) := do_57 DX8_joined_22
theorem dX8_joined_23 : decode cX8_joined 23 = .ok (.iinc 3 1, 3) := do_84 DX8_joined_23
theorem dX8_joined_26 : decode cX8_joined 26 = .ok (.goto (-16), 3) := do_a7 DX8_joined_26 (by decide +kernel)
theorem dX8_joined_29 : decode cX8_joined 29 = .ok (.aload_n 2, 1) := do_2c DX8_joined_29
theorem dX8_joined_30 : decode cX8_joined 30 = .ok (.invokevirtual 113, 3) := do_b6 DX8_joined_30
theorem dX8_joined_33 : decode cX8_joined 33 = .ok (.areturn, 1) := do_b0 DX8_joined_33
def TX8_decimals_50 : List UInt8 := []
def TX8_decimals_49 : List UInt8 := 176 :: TX8_decimals_50
def TX8_decimals_46 : List UInt8 := 184 :: 0 :: 210 :: TX8_decimals_49
def TX8_decimals_45 : List UInt8 := 28 :: TX8_decimals_46
def TX8_decimals_42 : List UInt8 := 182 :: 0 :: 207 :: TX8_decimals_45
def TX8_decimals_41 : List UInt8 := 27 :: TX8_decimals_42
def TX8_decimals_40 : List UInt8 := 42 :: TX8_decimals_41
def TX8_decimals_37 : List UInt8 := 167 :: 0 :: 12 :: TX8_decimals_40
def TX8_decimals_35 : List UInt8 := 18 :: 165 :: TX8_decimals_37
def TX8_decimals_32 : List UInt8 := 153 :: 0 :: 8 :: TX8_decimals_35
def TX8_decimals_29 : List UInt8 := 182 :: 0 :: 45 :: TX8_decimals_32
def TX8_decimals_28 : List UInt8 := 5 :: TX8_decimals_29
def TX8_decimals_27 : List UInt8 := 3 :: TX8_decimals_28
def TX8_decimals_24 : List UInt8 := 167 :: 0 :: 4 :: TX8_decimals_27
def TX8_decimals_23 : List UInt8 := 4 :: TX8_decimals_24
def TX8_decimals_20 : List UInt8 := 154 :: 0 :: 7 :: TX8_decimals_23
def TX8_decimals_17 : List UInt8 := 184 :: 0 :: 49 :: TX8_decimals_20
def TX8_decimals_15 : List UInt8 := 16 :: 16 :: TX8_decimals_17
def TX8_decimals_14 : List UInt8 := 3 :: TX8_decimals_15
def TX8_decimals_13 : List UInt8 := 28 :: TX8_decimals_14
def TX8_decimals_12 : List UInt8 := 42 :: TX8_decimals_13
def TX8_decimals_9 : List UInt8 := 154 :: 0 :: 26 :: TX8_decimals_12
def TX8_decimals_6 : List UInt8 := 182 :: 0 :: 149 :: TX8_decimals_9
def TX8_decimals_5 : List UInt8 := 4 :: TX8_decimals_6
def TX8_decimals_2 : List UInt8 := 184 :: 0 :: 145 :: TX8_decimals_5
def TX8_decimals_1 : List UInt8 := 27 :: TX8_decimals_2
def TX8_decimals_0 : List UInt8 := 42 :: TX8_decimals_1
theorem DX8_decimals_0 : cX8_decimals.data.toList.drop 0 = TX8_decimals_0 := by decide +kernel
theorem DX8_decimals_1 : cX8_decimals.data.toList.drop 1 = TX8_decimals_1 := dr1 DX8_decimals_0
theorem DX8_decimals_2 : cX8_decimals.data.toList.drop 2 = TX8_decimals_2 := dr1 DX8_decimals_1
theorem DX8_decimals_5 : cX8_decimals.data.toList.drop 5 = TX8_decimals_5 := dr3 DX8_decimals_2
theorem DX8_decimals_6 : cX8_decimals.data.toList.drop 6 = TX8_decimals_6 := dr1 DX8_decimals_5
theorem DX8_decimals_9 : cX8_decimals.data.toList.drop 9 = TX8_decimals_9 := dr3 DX8_decimals_6
theorem DX8_decimals_12 : cX8_decimals.data.toList.drop 12 = TX8_decimals_12 := dr3 DX8_decimals_9
theorem DX8_decimals_13 : cX8_decimals.data.toList.drop 13 = TX8_decimals_13 := dr1 DX8_decimals_12
theorem DX8_decimals_14 : cX8_decimals.data.toList.drop 14 = TX8_decimals_14 := dr1 DX8_decimals_13
theorem DX8_decimals_15 : cX8_decimals.data.toList.drop 15 = TX8_decimals_15 := dr1 DX8_decimals_14
theorem DX8_decimals_17 : cX8_decimals.data.toList.drop 17 = TX8_decimals_17 := dr2 DX8_decimals_15
theorem DX8_decimals_20 : cX8_decimals.data.toList.drop 20 = TX8_decimals_20 := dr3 DX8_decimals_17
theorem DX8_decimals_23 : cX8_decimals.data.toList.drop 23 = TX8_decimals_23 := dr3 DX8_decimals_20
theorem DX8_decimals_24 : cX8_decimals.data.toList.drop 24 = TX8_decimals_24 := dr1 DX8_decimals_23
theorem DX8_decimals_27 : cX8_decimals.data.toList.drop 27 = TX8_decimals_27 := dr3 DX8_decimals_24
theorem DX8_decimals_28 : cX8_decimals.data.toList.drop 28 = TX8_decimals_28 := dr1 DX8_decimals_27
theorem DX8_decimals_29 : cX8_decimals.data.toList.drop 29 = TX8_decimals_29 := dr1 DX8_decimals_28
theorem DX8_decimals_32 : cX8_decimals.data.toList.drop 32 = TX8_decimals_32 := dr3 DX8_decimals_29
theorem DX8_decimals_35 : cX8_decimals.data.toList.drop 35 = TX8_decimals_35 := dr3 DX8_decimals_32
theorem DX8_decimals_37 : cX8_decimals.data.toList.drop 37 = TX8_decimals_37 := dr2 DX8_decimals_35
theorem DX8_decimals_40 : cX8_decimals.data.toList.drop 40 = TX8_decimals_40 := dr3 DX8_decimals_37
theorem DX8_decimals_41 : cX8_decimals.data.toList.drop 41 = TX8_decimals_41 := dr1 DX8_decimals_40
theorem DX8_decimals_42 : cX8_decimals.data.toList.drop 42 = TX8_decimals_42 := dr1 DX8_decimals_41
theorem DX8_decimals_45 : cX8_decimals.data.toList.drop 45 = TX8_decimals_45 := dr3 DX8_decimals_42
theorem DX8_decimals_46 : cX8_decimals.data.toList.drop 46 = TX8_decimals_46 := dr1 DX8_decimals_45
theorem DX8_decimals_49 : cX8_decimals.data.toList.drop 49 = TX8_decimals_49 := dr3 DX8_decimals_46
theorem dX8_decimals_0 : decode cX8_decimals 0 = .ok (.aload_n 0, 1) := do_2a DX8_decimals_0
theorem dX8_decimals_1 : decode cX8_decimals 1 = .ok (.iload_n 1, 1) := do_1b DX8_decimals_1
theorem dX8_decimals_2 : decode cX8_decimals 2 = .ok (.invokestatic 145, 3) := do_b8 DX8_decimals_2
theorem dX8_decimals_5 : decode cX8_decimals 5 = .ok (.iconst 1, 1) := do_04 DX8_decimals_5
theorem dX8_decimals_6 : decode cX8_decimals 6 = .ok (.invokevirtual 149, 3) := do_b6 DX8_decimals_6
theorem dX8_decimals_9 : decode cX8_decimals 9 = .ok (.ifCond .ne 26, 3) := do_9a DX8_decimals_9 (by decide +kernel)
theorem dX8_decimals_12 : decode cX8_decimals 12 = .ok (.aload_n 0, 1) := do_2a DX8_decimals_12
theorem dX8_decimals_13 : decode cX8_decimals 13 = .ok (.iload_n 2, 1) := do_1c DX8_decimals_13
theorem dX8_decimals_14 : decode cX8_decimals 14 = .ok (.iconst 0, 1) := do_03 DX8_decimals_14
theorem dX8_decimals_15 : decode cX8_decimals 15 = .ok (.bipush 16, 2) := do_10 DX8_decimals_15 (by decide +kernel)
theorem dX8_decimals_17 : decode cX8_decimals 17 = .ok (.invokestatic 49, 3) := do_b8 DX8_decimals_17
theorem dX8_decimals_20 : decode cX8_decimals 20 = .ok (.ifCond .ne 7, 3) := do_9a DX8_decimals_20 (by decide +kernel)
theorem dX8_decimals_23 : decode cX8_decimals 23 = .ok (.iconst 1, 1) := do_04 DX8_decimals_23
theorem dX8_decimals_24 : decode cX8_decimals 24 = .ok (.goto 4, 3) := do_a7 DX8_decimals_24 (by decide +kernel)
theorem dX8_decimals_27 : decode cX8_decimals 27 = .ok (.iconst 0, 1) := do_03 DX8_decimals_27
theorem dX8_decimals_28 : decode cX8_decimals 28 = .ok (.iconst 2, 1) := do_05 DX8_decimals_28
theorem dX8_decimals_29 : decode cX8_decimals 29 = .ok (.invokevirtual 45, 3) := do_b6 DX8_decimals_29
theorem dX8_decimals_32 : decode cX8_decimals 32 = .ok (.ifCond .eq 8, 3) := do_99 DX8_decimals_32 (by decide +kernel)
theorem dX8_decimals_35 : decode cX8_decimals 35 = .ok (.ldc 165, 2) := by decide +kernel
theorem dX8_decimals_37 : decode cX8_decimals 37 = .ok (.goto 12, 3) := do_a7 DX8_decimals_37 (by decide +kernel)
theorem dX8_decimals_40 : decode cX8_decimals 40 = .ok (.aload_n 0, 1) := do_2a DX8_decimals_40
theorem dX8_decimals_41 : decode cX8_decimals 41 = .ok (.iload_n 1, 1) := do_1b DX8_decimals_41
theorem dX8_decimals_42 : decode cX8_decimals 42 = .ok (.invokevirtual 207, 3) := do_b6 DX8_decimals_42
theorem dX8_decimals_45 : decode cX8_decimals 45 = .ok (.iload_n 2, 1) := do_1c DX8_decimals_45
theorem dX8_decimals_46 : decode cX8_decimals 46 = .ok (.invokestatic 210, 3) := do_b8 DX8_decimals_46
theorem dX8_decimals_49 : decode cX8_decimals 49 = .ok (.areturn, 1) := do_b0 DX8_decimals_49
def TX8_rootPlaces_99 : List UInt8 := []
def TX8_rootPlaces_98 : List UInt8 := 176 :: TX8_rootPlaces_99
def TX8_rootPlaces_97 : List UInt8 := 43 :: TX8_rootPlaces_98
def TX8_rootPlaces_94 : List UInt8 := 167 :: 255 :: 176 :: TX8_rootPlaces_97
def TX8_rootPlaces_91 : List UInt8 := 132 :: 6 :: 1 :: TX8_rootPlaces_94
def TX8_rootPlaces_90 : List UInt8 := 79 :: TX8_rootPlaces_91
def TX8_rootPlaces_88 : List UInt8 := 21 :: 7 :: TX8_rootPlaces_90
def TX8_rootPlaces_86 : List UInt8 := 21 :: 6 :: TX8_rootPlaces_88
def TX8_rootPlaces_85 : List UInt8 := 43 :: TX8_rootPlaces_86
def TX8_rootPlaces_84 : List UInt8 := 65 :: TX8_rootPlaces_85
def TX8_rootPlaces_83 : List UInt8 := 97 :: TX8_rootPlaces_84
def TX8_rootPlaces_82 : List UInt8 := 133 :: TX8_rootPlaces_83
def TX8_rootPlaces_80 : List UInt8 := 21 :: 7 :: TX8_rootPlaces_82
def TX8_rootPlaces_79 : List UInt8 := 105 :: TX8_rootPlaces_80
def TX8_rootPlaces_78 : List UInt8 := 32 :: TX8_rootPlaces_79
def TX8_rootPlaces_75 : List UInt8 := 20 :: 0 :: 202 :: TX8_rootPlaces_78
def TX8_rootPlaces_73 : List UInt8 := 55 :: 4 :: TX8_rootPlaces_75
def TX8_rootPlaces_72 : List UInt8 := 105 :: TX8_rootPlaces_73
def TX8_rootPlaces_71 : List UInt8 := 101 :: TX8_rootPlaces_72
def TX8_rootPlaces_70 : List UInt8 := 105 :: TX8_rootPlaces_71
def TX8_rootPlaces_69 : List UInt8 := 133 :: TX8_rootPlaces_70
def TX8_rootPlaces_67 : List UInt8 := 21 :: 7 :: TX8_rootPlaces_69
def TX8_rootPlaces_66 : List UInt8 := 97 :: TX8_rootPlaces_67
def TX8_rootPlaces_65 : List UInt8 := 133 :: TX8_rootPlaces_66
def TX8_rootPlaces_63 : List UInt8 := 21 :: 7 :: TX8_rootPlaces_65
def TX8_rootPlaces_62 : List UInt8 := 105 :: TX8_rootPlaces_63
def TX8_rootPlaces_61 : List UInt8 := 32 :: TX8_rootPlaces_62
def TX8_rootPlaces_58 : List UInt8 := 20 :: 0 :: 213 :: TX8_rootPlaces_61
def TX8_rootPlaces_56 : List UInt8 := 22 :: 4 :: TX8_rootPlaces_58
def TX8_rootPlaces_53 : List UInt8 := 20 :: 0 :: 215 :: TX8_rootPlaces_56
def TX8_rootPlaces_50 : List UInt8 := 167 :: 255 :: 230 :: TX8_rootPlaces_53
def TX8_rootPlaces_47 : List UInt8 := 132 :: 7 :: 1 :: TX8_rootPlaces_50
def TX8_rootPlaces_44 : List UInt8 := 157 :: 0 :: 9 :: TX8_rootPlaces_47
def TX8_rootPlaces_43 : List UInt8 := 148 :: TX8_rootPlaces_44
def TX8_rootPlaces_41 : List UInt8 := 22 :: 4 :: TX8_rootPlaces_43
def TX8_rootPlaces_40 : List UInt8 := 105 :: TX8_rootPlaces_41
def TX8_rootPlaces_39 : List UInt8 := 133 :: TX8_rootPlaces_40
def TX8_rootPlaces_38 : List UInt8 := 96 :: TX8_rootPlaces_39
def TX8_rootPlaces_37 : List UInt8 := 4 :: TX8_rootPlaces_38
def TX8_rootPlaces_35 : List UInt8 := 21 :: 7 :: TX8_rootPlaces_37
def TX8_rootPlaces_34 : List UInt8 := 97 :: TX8_rootPlaces_35
def TX8_rootPlaces_33 : List UInt8 := 10 :: TX8_rootPlaces_34
def TX8_rootPlaces_32 : List UInt8 := 97 :: TX8_rootPlaces_33
def TX8_rootPlaces_31 : List UInt8 := 133 :: TX8_rootPlaces_32
def TX8_rootPlaces_29 : List UInt8 := 21 :: 7 :: TX8_rootPlaces_31
def TX8_rootPlaces_28 : List UInt8 := 105 :: TX8_rootPlaces_29
def TX8_rootPlaces_27 : List UInt8 := 32 :: TX8_rootPlaces_28
def TX8_rootPlaces_24 : List UInt8 := 20 :: 0 :: 213 :: TX8_rootPlaces_27
def TX8_rootPlaces_22 : List UInt8 := 54 :: 7 :: TX8_rootPlaces_24
def TX8_rootPlaces_21 : List UInt8 := 3 :: TX8_rootPlaces_22
def TX8_rootPlaces_18 : List UInt8 := 162 :: 0 :: 79 :: TX8_rootPlaces_21
def TX8_rootPlaces_16 : List UInt8 := 16 :: 17 :: TX8_rootPlaces_18
def TX8_rootPlaces_14 : List UInt8 := 21 :: 6 :: TX8_rootPlaces_16
def TX8_rootPlaces_12 : List UInt8 := 54 :: 6 :: TX8_rootPlaces_14
def TX8_rootPlaces_11 : List UInt8 := 3 :: TX8_rootPlaces_12
def TX8_rootPlaces_9 : List UInt8 := 55 :: 4 :: TX8_rootPlaces_11
def TX8_rootPlaces_8 : List UInt8 := 133 :: TX8_rootPlaces_9
def TX8_rootPlaces_7 : List UInt8 := 26 :: TX8_rootPlaces_8
def TX8_rootPlaces_6 : List UInt8 := 65 :: TX8_rootPlaces_7
def TX8_rootPlaces_5 : List UInt8 := 9 :: TX8_rootPlaces_6
def TX8_rootPlaces_4 : List UInt8 := 76 :: TX8_rootPlaces_5
def TX8_rootPlaces_2 : List UInt8 := 188 :: 10 :: TX8_rootPlaces_4
def TX8_rootPlaces_0 : List UInt8 := 16 :: 17 :: TX8_rootPlaces_2
theorem DX8_rootPlaces_0 : cX8_rootPlaces.data.toList.drop 0 = TX8_rootPlaces_0 := by decide +kernel
theorem DX8_rootPlaces_2 : cX8_rootPlaces.data.toList.drop 2 = TX8_rootPlaces_2 := dr2 DX8_rootPlaces_0
theorem DX8_rootPlaces_4 : cX8_rootPlaces.data.toList.drop 4 = TX8_rootPlaces_4 := dr2 DX8_rootPlaces_2
theorem DX8_rootPlaces_5 : cX8_rootPlaces.data.toList.drop 5 = TX8_rootPlaces_5 := dr1 DX8_rootPlaces_4
theorem DX8_rootPlaces_6 : cX8_rootPlaces.data.toList.drop 6 = TX8_rootPlaces_6 := dr1 DX8_rootPlaces_5
theorem DX8_rootPlaces_7 : cX8_rootPlaces.data.toList.drop 7 = TX8_rootPlaces_7 := dr1 DX8_rootPlaces_6
theorem DX8_rootPlaces_8 : cX8_rootPlaces.data.toList.drop 8 = TX8_rootPlaces_8 := dr1 DX8_rootPlaces_7
theorem DX8_rootPlaces_9 : cX8_rootPlaces.data.toList.drop 9 = TX8_rootPlaces_9 := dr1 DX8_rootPlaces_8
theorem DX8_rootPlaces_11 : cX8_rootPlaces.data.toList.drop 11 = TX8_rootPlaces_11 := dr2 DX8_rootPlaces_9
theorem DX8_rootPlaces_12 : cX8_rootPlaces.data.toList.drop 12 = TX8_rootPlaces_12 := dr1 DX8_rootPlaces_11
theorem DX8_rootPlaces_14 : cX8_rootPlaces.data.toList.drop 14 = TX8_rootPlaces_14 := dr2 DX8_rootPlaces_12
theorem DX8_rootPlaces_16 : cX8_rootPlaces.data.toList.drop 16 = TX8_rootPlaces_16 := dr2 DX8_rootPlaces_14
theorem DX8_rootPlaces_18 : cX8_rootPlaces.data.toList.drop 18 = TX8_rootPlaces_18 := dr2 DX8_rootPlaces_16
theorem DX8_rootPlaces_21 : cX8_rootPlaces.data.toList.drop 21 = TX8_rootPlaces_21 := dr3 DX8_rootPlaces_18
theorem DX8_rootPlaces_22 : cX8_rootPlaces.data.toList.drop 22 = TX8_rootPlaces_22 := dr1 DX8_rootPlaces_21
theorem DX8_rootPlaces_24 : cX8_rootPlaces.data.toList.drop 24 = TX8_rootPlaces_24 := dr2 DX8_rootPlaces_22
theorem DX8_rootPlaces_27 : cX8_rootPlaces.data.toList.drop 27 = TX8_rootPlaces_27 := dr3 DX8_rootPlaces_24
theorem DX8_rootPlaces_28 : cX8_rootPlaces.data.toList.drop 28 = TX8_rootPlaces_28 := dr1 DX8_rootPlaces_27
theorem DX8_rootPlaces_29 : cX8_rootPlaces.data.toList.drop 29 = TX8_rootPlaces_29 := dr1 DX8_rootPlaces_28
theorem DX8_rootPlaces_31 : cX8_rootPlaces.data.toList.drop 31 = TX8_rootPlaces_31 := dr2 DX8_rootPlaces_29
theorem DX8_rootPlaces_32 : cX8_rootPlaces.data.toList.drop 32 = TX8_rootPlaces_32 := dr1 DX8_rootPlaces_31
theorem DX8_rootPlaces_33 : cX8_rootPlaces.data.toList.drop 33 = TX8_rootPlaces_33 := dr1 DX8_rootPlaces_32
theorem DX8_rootPlaces_34 : cX8_rootPlaces.data.toList.drop 34 = TX8_rootPlaces_34 := dr1 DX8_rootPlaces_33
theorem DX8_rootPlaces_35 : cX8_rootPlaces.data.toList.drop 35 = TX8_rootPlaces_35 := dr1 DX8_rootPlaces_34
theorem DX8_rootPlaces_37 : cX8_rootPlaces.data.toList.drop 37 = TX8_rootPlaces_37 := dr2 DX8_rootPlaces_35
theorem DX8_rootPlaces_38 : cX8_rootPlaces.data.toList.drop 38 = TX8_rootPlaces_38 := dr1 DX8_rootPlaces_37
theorem DX8_rootPlaces_39 : cX8_rootPlaces.data.toList.drop 39 = TX8_rootPlaces_39 := dr1 DX8_rootPlaces_38
theorem DX8_rootPlaces_40 : cX8_rootPlaces.data.toList.drop 40 = TX8_rootPlaces_40 := dr1 DX8_rootPlaces_39
theorem DX8_rootPlaces_41 : cX8_rootPlaces.data.toList.drop 41 = TX8_rootPlaces_41 := dr1 DX8_rootPlaces_40
theorem DX8_rootPlaces_43 : cX8_rootPlaces.data.toList.drop 43 = TX8_rootPlaces_43 := dr2 DX8_rootPlaces_41
theorem DX8_rootPlaces_44 : cX8_rootPlaces.data.toList.drop 44 = TX8_rootPlaces_44 := dr1 DX8_rootPlaces_43
theorem DX8_rootPlaces_47 : cX8_rootPlaces.data.toList.drop 47 = TX8_rootPlaces_47 := dr3 DX8_rootPlaces_44
theorem DX8_rootPlaces_50 : cX8_rootPlaces.data.toList.drop 50 = TX8_rootPlaces_50 := dr3 DX8_rootPlaces_47
theorem DX8_rootPlaces_53 : cX8_rootPlaces.data.toList.drop 53 = TX8_rootPlaces_53 := dr3 DX8_rootPlaces_50
theorem DX8_rootPlaces_56 : cX8_rootPlaces.data.toList.drop 56 = TX8_rootPlaces_56 := dr3 DX8_rootPlaces_53
theorem DX8_rootPlaces_58 : cX8_rootPlaces.data.toList.drop 58 = TX8_rootPlaces_58 := dr2 DX8_rootPlaces_56
theorem DX8_rootPlaces_61 : cX8_rootPlaces.data.toList.drop 61 = TX8_rootPlaces_61 := dr3 DX8_rootPlaces_58
theorem DX8_rootPlaces_62 : cX8_rootPlaces.data.toList.drop 62 = TX8_rootPlaces_62 := dr1 DX8_rootPlaces_61
theorem DX8_rootPlaces_63 : cX8_rootPlaces.data.toList.drop 63 = TX8_rootPlaces_63 := dr1 DX8_rootPlaces_62
theorem DX8_rootPlaces_65 : cX8_rootPlaces.data.toList.drop 65 = TX8_rootPlaces_65 := dr2 DX8_rootPlaces_63
theorem DX8_rootPlaces_66 : cX8_rootPlaces.data.toList.drop 66 = TX8_rootPlaces_66 := dr1 DX8_rootPlaces_65
theorem DX8_rootPlaces_67 : cX8_rootPlaces.data.toList.drop 67 = TX8_rootPlaces_67 := dr1 DX8_rootPlaces_66
theorem DX8_rootPlaces_69 : cX8_rootPlaces.data.toList.drop 69 = TX8_rootPlaces_69 := dr2 DX8_rootPlaces_67
theorem DX8_rootPlaces_70 : cX8_rootPlaces.data.toList.drop 70 = TX8_rootPlaces_70 := dr1 DX8_rootPlaces_69
theorem DX8_rootPlaces_71 : cX8_rootPlaces.data.toList.drop 71 = TX8_rootPlaces_71 := dr1 DX8_rootPlaces_70
theorem DX8_rootPlaces_72 : cX8_rootPlaces.data.toList.drop 72 = TX8_rootPlaces_72 := dr1 DX8_rootPlaces_71
theorem DX8_rootPlaces_73 : cX8_rootPlaces.data.toList.drop 73 = TX8_rootPlaces_73 := dr1 DX8_rootPlaces_72
theorem DX8_rootPlaces_75 : cX8_rootPlaces.data.toList.drop 75 = TX8_rootPlaces_75 := dr2 DX8_rootPlaces_73
theorem DX8_rootPlaces_78 : cX8_rootPlaces.data.toList.drop 78 = TX8_rootPlaces_78 := dr3 DX8_rootPlaces_75
theorem DX8_rootPlaces_79 : cX8_rootPlaces.data.toList.drop 79 = TX8_rootPlaces_79 := dr1 DX8_rootPlaces_78
theorem DX8_rootPlaces_80 : cX8_rootPlaces.data.toList.drop 80 = TX8_rootPlaces_80 := dr1 DX8_rootPlaces_79
theorem DX8_rootPlaces_82 : cX8_rootPlaces.data.toList.drop 82 = TX8_rootPlaces_82 := dr2 DX8_rootPlaces_80
theorem DX8_rootPlaces_83 : cX8_rootPlaces.data.toList.drop 83 = TX8_rootPlaces_83 := dr1 DX8_rootPlaces_82
theorem DX8_rootPlaces_84 : cX8_rootPlaces.data.toList.drop 84 = TX8_rootPlaces_84 := dr1 DX8_rootPlaces_83
theorem DX8_rootPlaces_85 : cX8_rootPlaces.data.toList.drop 85 = TX8_rootPlaces_85 := dr1 DX8_rootPlaces_84
theorem DX8_rootPlaces_86 : cX8_rootPlaces.data.toList.drop 86 = TX8_rootPlaces_86 := dr1 DX8_rootPlaces_85
theorem DX8_rootPlaces_88 : cX8_rootPlaces.data.toList.drop 88 = TX8_rootPlaces_88 := dr2 DX8_rootPlaces_86
theorem DX8_rootPlaces_90 : cX8_rootPlaces.data.toList.drop 90 = TX8_rootPlaces_90 := dr2 DX8_rootPlaces_88
theorem DX8_rootPlaces_91 : cX8_rootPlaces.data.toList.drop 91 = TX8_rootPlaces_91 := dr1 DX8_rootPlaces_90
theorem DX8_rootPlaces_94 : cX8_rootPlaces.data.toList.drop 94 = TX8_rootPlaces_94 := dr3 DX8_rootPlaces_91
theorem DX8_rootPlaces_97 : cX8_rootPlaces.data.toList.drop 97 = TX8_rootPlaces_97 := dr3 DX8_rootPlaces_94
theorem DX8_rootPlaces_98 : cX8_rootPlaces.data.toList.drop 98 = TX8_rootPlaces_98 := dr1 DX8_rootPlaces_97
theorem dX8_rootPlaces_0 : decode cX8_rootPlaces 0 = .ok (.bipush 17, 2) := do_10 DX8_rootPlaces_0 (by decide +kernel)
theorem dX8_rootPlaces_2 : decode cX8_rootPlaces 2 = .ok (.newarray .int, 2) := by decide +kernel
theorem dX8_rootPlaces_4 : decode cX8_rootPlaces 4 = .ok (.astore_n 1, 1) := do_4c DX8_rootPlaces_4
theorem dX8_rootPlaces_5 : decode cX8_rootPlaces 5 = .ok (.lconst 0, 1) := do_09 DX8_rootPlaces_5
theorem dX8_rootPlaces_6 : decode cX8_rootPlaces 6 = .ok (.lstore_n 2, 1) := do_41 DX8_rootPlaces_6
theorem dX8_rootPlaces_7 : decode cX8_rootPlaces 7 = .ok (.iload_n 0, 1) := do_1a DX8_rootPlaces_7
theorem dX8_rootPlaces_8 : decode cX8_rootPlaces 8 = .ok (.i2l, 1) := do_85 DX8_rootPlaces_8
theorem dX8_rootPlaces_9 : decode cX8_rootPlaces 9 = .ok (.lstore 4, 2) := do_37 DX8_rootPlaces_9
theorem dX8_rootPlaces_11 : decode cX8_rootPlaces 11 = .ok (.iconst 0, 1) := do_03 DX8_rootPlaces_11
theorem dX8_rootPlaces_12 : decode cX8_rootPlaces 12 = .ok (.istore 6, 2) := do_36 DX8_rootPlaces_12
theorem dX8_rootPlaces_14 : decode cX8_rootPlaces 14 = .ok (.iload 6, 2) := do_15 DX8_rootPlaces_14
theorem dX8_rootPlaces_16 : decode cX8_rootPlaces 16 = .ok (.bipush 17, 2) := do_10 DX8_rootPlaces_16 (by decide +kernel)
theorem dX8_rootPlaces_18 : decode cX8_rootPlaces 18 = .ok (.if_icmp .ge 79, 3) := do_a2 DX8_rootPlaces_18 (by decide +kernel)
theorem dX8_rootPlaces_21 : decode cX8_rootPlaces 21 = .ok (.iconst 0, 1) := do_03 DX8_rootPlaces_21
theorem dX8_rootPlaces_22 : decode cX8_rootPlaces 22 = .ok (.istore 7, 2) := do_36 DX8_rootPlaces_22
theorem dX8_rootPlaces_24 : decode cX8_rootPlaces 24 = .ok (.ldc2_w 213, 3) := by decide +kernel
theorem dX8_rootPlaces_27 : decode cX8_rootPlaces 27 = .ok (.lload_n 2, 1) := do_20 DX8_rootPlaces_27
theorem dX8_rootPlaces_28 : decode cX8_rootPlaces 28 = .ok (.lmul, 1) := do_69 DX8_rootPlaces_28
theorem dX8_rootPlaces_29 : decode cX8_rootPlaces 29 = .ok (.iload 7, 2) := do_15 DX8_rootPlaces_29
theorem dX8_rootPlaces_31 : decode cX8_rootPlaces 31 = .ok (.i2l, 1) := do_85 DX8_rootPlaces_31
theorem dX8_rootPlaces_32 : decode cX8_rootPlaces 32 = .ok (.ladd, 1) := do_61 DX8_rootPlaces_32
theorem dX8_rootPlaces_33 : decode cX8_rootPlaces 33 = .ok (.lconst 1, 1) := do_0a DX8_rootPlaces_33
theorem dX8_rootPlaces_34 : decode cX8_rootPlaces 34 = .ok (.ladd, 1) := do_61 DX8_rootPlaces_34
theorem dX8_rootPlaces_35 : decode cX8_rootPlaces 35 = .ok (.iload 7, 2) := do_15 DX8_rootPlaces_35
theorem dX8_rootPlaces_37 : decode cX8_rootPlaces 37 = .ok (.iconst 1, 1) := do_04 DX8_rootPlaces_37
theorem dX8_rootPlaces_38 : decode cX8_rootPlaces 38 = .ok (.iadd, 1) := do_60 DX8_rootPlaces_38
theorem dX8_rootPlaces_39 : decode cX8_rootPlaces 39 = .ok (.i2l, 1) := do_85 DX8_rootPlaces_39
theorem dX8_rootPlaces_40 : decode cX8_rootPlaces 40 = .ok (.lmul, 1) := do_69 DX8_rootPlaces_40
theorem dX8_rootPlaces_41 : decode cX8_rootPlaces 41 = .ok (.lload 4, 2) := do_16 DX8_rootPlaces_41
theorem dX8_rootPlaces_43 : decode cX8_rootPlaces 43 = .ok (.lcmp, 1) := do_94 DX8_rootPlaces_43
theorem dX8_rootPlaces_44 : decode cX8_rootPlaces 44 = .ok (.ifCond .gt 9, 3) := do_9d DX8_rootPlaces_44 (by decide +kernel)
theorem dX8_rootPlaces_47 : decode cX8_rootPlaces 47 = .ok (.iinc 7 1, 3) := do_84 DX8_rootPlaces_47
theorem dX8_rootPlaces_50 : decode cX8_rootPlaces 50 = .ok (.goto (-26), 3) := do_a7 DX8_rootPlaces_50 (by decide +kernel)
theorem dX8_rootPlaces_53 : decode cX8_rootPlaces 53 = .ok (.ldc2_w 215, 3) := by decide +kernel
theorem dX8_rootPlaces_56 : decode cX8_rootPlaces 56 = .ok (.lload 4, 2) := do_16 DX8_rootPlaces_56
theorem dX8_rootPlaces_58 : decode cX8_rootPlaces 58 = .ok (.ldc2_w 213, 3) := by decide +kernel
theorem dX8_rootPlaces_61 : decode cX8_rootPlaces 61 = .ok (.lload_n 2, 1) := do_20 DX8_rootPlaces_61
theorem dX8_rootPlaces_62 : decode cX8_rootPlaces 62 = .ok (.lmul, 1) := do_69 DX8_rootPlaces_62
theorem dX8_rootPlaces_63 : decode cX8_rootPlaces 63 = .ok (.iload 7, 2) := do_15 DX8_rootPlaces_63
theorem dX8_rootPlaces_65 : decode cX8_rootPlaces 65 = .ok (.i2l, 1) := do_85 DX8_rootPlaces_65
theorem dX8_rootPlaces_66 : decode cX8_rootPlaces 66 = .ok (.ladd, 1) := do_61 DX8_rootPlaces_66
theorem dX8_rootPlaces_67 : decode cX8_rootPlaces 67 = .ok (.iload 7, 2) := do_15 DX8_rootPlaces_67
theorem dX8_rootPlaces_69 : decode cX8_rootPlaces 69 = .ok (.i2l, 1) := do_85 DX8_rootPlaces_69
theorem dX8_rootPlaces_70 : decode cX8_rootPlaces 70 = .ok (.lmul, 1) := do_69 DX8_rootPlaces_70
theorem dX8_rootPlaces_71 : decode cX8_rootPlaces 71 = .ok (.lsub, 1) := do_65 DX8_rootPlaces_71
theorem dX8_rootPlaces_72 : decode cX8_rootPlaces 72 = .ok (.lmul, 1) := do_69 DX8_rootPlaces_72
theorem dX8_rootPlaces_73 : decode cX8_rootPlaces 73 = .ok (.lstore 4, 2) := do_37 DX8_rootPlaces_73
theorem dX8_rootPlaces_75 : decode cX8_rootPlaces 75 = .ok (.ldc2_w 202, 3) := by decide +kernel
theorem dX8_rootPlaces_78 : decode cX8_rootPlaces 78 = .ok (.lload_n 2, 1) := do_20 DX8_rootPlaces_78
theorem dX8_rootPlaces_79 : decode cX8_rootPlaces 79 = .ok (.lmul, 1) := do_69 DX8_rootPlaces_79
theorem dX8_rootPlaces_80 : decode cX8_rootPlaces 80 = .ok (.iload 7, 2) := do_15 DX8_rootPlaces_80
theorem dX8_rootPlaces_82 : decode cX8_rootPlaces 82 = .ok (.i2l, 1) := do_85 DX8_rootPlaces_82
theorem dX8_rootPlaces_83 : decode cX8_rootPlaces 83 = .ok (.ladd, 1) := do_61 DX8_rootPlaces_83
theorem dX8_rootPlaces_84 : decode cX8_rootPlaces 84 = .ok (.lstore_n 2, 1) := do_41 DX8_rootPlaces_84
theorem dX8_rootPlaces_85 : decode cX8_rootPlaces 85 = .ok (.aload_n 1, 1) := do_2b DX8_rootPlaces_85
theorem dX8_rootPlaces_86 : decode cX8_rootPlaces 86 = .ok (.iload 6, 2) := do_15 DX8_rootPlaces_86
theorem dX8_rootPlaces_88 : decode cX8_rootPlaces 88 = .ok (.iload 7, 2) := do_15 DX8_rootPlaces_88
theorem dX8_rootPlaces_90 : decode cX8_rootPlaces 90 = .ok (.iastore, 1) := do_4f DX8_rootPlaces_90
theorem dX8_rootPlaces_91 : decode cX8_rootPlaces 91 = .ok (.iinc 6 1, 3) := do_84 DX8_rootPlaces_91
theorem dX8_rootPlaces_94 : decode cX8_rootPlaces 94 = .ok (.goto (-80), 3) := do_a7 DX8_rootPlaces_94 (by decide +kernel)
theorem dX8_rootPlaces_97 : decode cX8_rootPlaces 97 = .ok (.aload_n 1, 1) := do_2b DX8_rootPlaces_97
theorem dX8_rootPlaces_98 : decode cX8_rootPlaces 98 = .ok (.areturn, 1) := do_b0 DX8_rootPlaces_98
def TX8_alike_62 : List UInt8 := []
def TX8_alike_61 : List UInt8 := 172 :: TX8_alike_62
def TX8_alike_60 : List UInt8 := 100 :: TX8_alike_61
def TX8_alike_59 : List UInt8 := 4 :: TX8_alike_60
def TX8_alike_57 : List UInt8 := 21 :: 4 :: TX8_alike_59
def TX8_alike_54 : List UInt8 := 167 :: 255 :: 235 :: TX8_alike_57
def TX8_alike_51 : List UInt8 := 132 :: 4 :: 1 :: TX8_alike_54
def TX8_alike_48 : List UInt8 := 160 :: 0 :: 9 :: TX8_alike_51
def TX8_alike_47 : List UInt8 := 46 :: TX8_alike_48
def TX8_alike_45 : List UInt8 := 21 :: 4 :: TX8_alike_47
def TX8_alike_44 : List UInt8 := 45 :: TX8_alike_45
def TX8_alike_43 : List UInt8 := 46 :: TX8_alike_44
def TX8_alike_41 : List UInt8 := 21 :: 4 :: TX8_alike_43
def TX8_alike_40 : List UInt8 := 44 :: TX8_alike_41
def TX8_alike_37 : List UInt8 := 162 :: 0 :: 20 :: TX8_alike_40
def TX8_alike_35 : List UInt8 := 16 :: 17 :: TX8_alike_37
def TX8_alike_33 : List UInt8 := 21 :: 4 :: TX8_alike_35
def TX8_alike_31 : List UInt8 := 54 :: 4 :: TX8_alike_33
def TX8_alike_30 : List UInt8 := 3 :: TX8_alike_31
def TX8_alike_29 : List UInt8 := 78 :: TX8_alike_30
def TX8_alike_26 : List UInt8 := 184 :: 0 :: 217 :: TX8_alike_29
def TX8_alike_25 : List UInt8 := 46 :: TX8_alike_26
def TX8_alike_24 : List UInt8 := 27 :: TX8_alike_25
def TX8_alike_21 : List UInt8 := 180 :: 0 :: 9 :: TX8_alike_24
def TX8_alike_20 : List UInt8 := 42 :: TX8_alike_21
def TX8_alike_19 : List UInt8 := 77 :: TX8_alike_20
def TX8_alike_16 : List UInt8 := 182 :: 0 :: 207 :: TX8_alike_19
def TX8_alike_15 : List UInt8 := 27 :: TX8_alike_16
def TX8_alike_14 : List UInt8 := 42 :: TX8_alike_15
def TX8_alike_13 : List UInt8 := 172 :: TX8_alike_14
def TX8_alike_12 : List UInt8 := 3 :: TX8_alike_13
def TX8_alike_9 : List UInt8 := 153 :: 0 :: 5 :: TX8_alike_12
def TX8_alike_6 : List UInt8 := 182 :: 0 :: 149 :: TX8_alike_9
def TX8_alike_5 : List UInt8 := 4 :: TX8_alike_6
def TX8_alike_2 : List UInt8 := 184 :: 0 :: 145 :: TX8_alike_5
def TX8_alike_1 : List UInt8 := 27 :: TX8_alike_2
def TX8_alike_0 : List UInt8 := 42 :: TX8_alike_1
theorem DX8_alike_0 : cX8_alike.data.toList.drop 0 = TX8_alike_0 := by decide +kernel
theorem DX8_alike_1 : cX8_alike.data.toList.drop 1 = TX8_alike_1 := dr1 DX8_alike_0
theorem DX8_alike_2 : cX8_alike.data.toList.drop 2 = TX8_alike_2 := dr1 DX8_alike_1
theorem DX8_alike_5 : cX8_alike.data.toList.drop 5 = TX8_alike_5 := dr3 DX8_alike_2
theorem DX8_alike_6 : cX8_alike.data.toList.drop 6 = TX8_alike_6 := dr1 DX8_alike_5
theorem DX8_alike_9 : cX8_alike.data.toList.drop 9 = TX8_alike_9 := dr3 DX8_alike_6
theorem DX8_alike_12 : cX8_alike.data.toList.drop 12 = TX8_alike_12 := dr3 DX8_alike_9
theorem DX8_alike_13 : cX8_alike.data.toList.drop 13 = TX8_alike_13 := dr1 DX8_alike_12
theorem DX8_alike_14 : cX8_alike.data.toList.drop 14 = TX8_alike_14 := dr1 DX8_alike_13
theorem DX8_alike_15 : cX8_alike.data.toList.drop 15 = TX8_alike_15 := dr1 DX8_alike_14
theorem DX8_alike_16 : cX8_alike.data.toList.drop 16 = TX8_alike_16 := dr1 DX8_alike_15
theorem DX8_alike_19 : cX8_alike.data.toList.drop 19 = TX8_alike_19 := dr3 DX8_alike_16
theorem DX8_alike_20 : cX8_alike.data.toList.drop 20 = TX8_alike_20 := dr1 DX8_alike_19
theorem DX8_alike_21 : cX8_alike.data.toList.drop 21 = TX8_alike_21 := dr1 DX8_alike_20
theorem DX8_alike_24 : cX8_alike.data.toList.drop 24 = TX8_alike_24 := dr3 DX8_alike_21
theorem DX8_alike_25 : cX8_alike.data.toList.drop 25 = TX8_alike_25 := dr1 DX8_alike_24
theorem DX8_alike_26 : cX8_alike.data.toList.drop 26 = TX8_alike_26 := dr1 DX8_alike_25
theorem DX8_alike_29 : cX8_alike.data.toList.drop 29 = TX8_alike_29 := dr3 DX8_alike_26
theorem DX8_alike_30 : cX8_alike.data.toList.drop 30 = TX8_alike_30 := dr1 DX8_alike_29
theorem DX8_alike_31 : cX8_alike.data.toList.drop 31 = TX8_alike_31 := dr1 DX8_alike_30
theorem DX8_alike_33 : cX8_alike.data.toList.drop 33 = TX8_alike_33 := dr2 DX8_alike_31
theorem DX8_alike_35 : cX8_alike.data.toList.drop 35 = TX8_alike_35 := dr2 DX8_alike_33
theorem DX8_alike_37 : cX8_alike.data.toList.drop 37 = TX8_alike_37 := dr2 DX8_alike_35
theorem DX8_alike_40 : cX8_alike.data.toList.drop 40 = TX8_alike_40 := dr3 DX8_alike_37
theorem DX8_alike_41 : cX8_alike.data.toList.drop 41 = TX8_alike_41 := dr1 DX8_alike_40
theorem DX8_alike_43 : cX8_alike.data.toList.drop 43 = TX8_alike_43 := dr2 DX8_alike_41
theorem DX8_alike_44 : cX8_alike.data.toList.drop 44 = TX8_alike_44 := dr1 DX8_alike_43
theorem DX8_alike_45 : cX8_alike.data.toList.drop 45 = TX8_alike_45 := dr1 DX8_alike_44
theorem DX8_alike_47 : cX8_alike.data.toList.drop 47 = TX8_alike_47 := dr2 DX8_alike_45
theorem DX8_alike_48 : cX8_alike.data.toList.drop 48 = TX8_alike_48 := dr1 DX8_alike_47
theorem DX8_alike_51 : cX8_alike.data.toList.drop 51 = TX8_alike_51 := dr3 DX8_alike_48
theorem DX8_alike_54 : cX8_alike.data.toList.drop 54 = TX8_alike_54 := dr3 DX8_alike_51
theorem DX8_alike_57 : cX8_alike.data.toList.drop 57 = TX8_alike_57 := dr3 DX8_alike_54
theorem DX8_alike_59 : cX8_alike.data.toList.drop 59 = TX8_alike_59 := dr2 DX8_alike_57
theorem DX8_alike_60 : cX8_alike.data.toList.drop 60 = TX8_alike_60 := dr1 DX8_alike_59
theorem DX8_alike_61 : cX8_alike.data.toList.drop 61 = TX8_alike_61 := dr1 DX8_alike_60
theorem dX8_alike_0 : decode cX8_alike 0 = .ok (.aload_n 0, 1) := do_2a DX8_alike_0
theorem dX8_alike_1 : decode cX8_alike 1 = .ok (.iload_n 1, 1) := do_1b DX8_alike_1
theorem dX8_alike_2 : decode cX8_alike 2 = .ok (.invokestatic 145, 3) := do_b8 DX8_alike_2
theorem dX8_alike_5 : decode cX8_alike 5 = .ok (.iconst 1, 1) := do_04 DX8_alike_5
theorem dX8_alike_6 : decode cX8_alike 6 = .ok (.invokevirtual 149, 3) := do_b6 DX8_alike_6
theorem dX8_alike_9 : decode cX8_alike 9 = .ok (.ifCond .eq 5, 3) := do_99 DX8_alike_9 (by decide +kernel)
theorem dX8_alike_12 : decode cX8_alike 12 = .ok (.iconst 0, 1) := do_03 DX8_alike_12
theorem dX8_alike_13 : decode cX8_alike 13 = .ok (.ireturn, 1) := do_ac DX8_alike_13
theorem dX8_alike_14 : decode cX8_alike 14 = .ok (.aload_n 0, 1) := do_2a DX8_alike_14
theorem dX8_alike_15 : decode cX8_alike 15 = .ok (.iload_n 1, 1) := do_1b DX8_alike_15
theorem dX8_alike_16 : decode cX8_alike 16 = .ok (.invokevirtual 207, 3) := do_b6 DX8_alike_16
theorem dX8_alike_19 : decode cX8_alike 19 = .ok (.astore_n 2, 1) := do_4d DX8_alike_19
theorem dX8_alike_20 : decode cX8_alike 20 = .ok (.aload_n 0, 1) := do_2a DX8_alike_20
theorem dX8_alike_21 : decode cX8_alike 21 = .ok (.getfield 9, 3) := do_b4 DX8_alike_21
theorem dX8_alike_24 : decode cX8_alike 24 = .ok (.iload_n 1, 1) := do_1b DX8_alike_24
theorem dX8_alike_25 : decode cX8_alike 25 = .ok (.iaload, 1) := do_2e DX8_alike_25
theorem dX8_alike_26 : decode cX8_alike 26 = .ok (.invokestatic 217, 3) := do_b8 DX8_alike_26
theorem dX8_alike_29 : decode cX8_alike 29 = .ok (.astore_n 3, 1) := do_4e DX8_alike_29
theorem dX8_alike_30 : decode cX8_alike 30 = .ok (.iconst 0, 1) := do_03 DX8_alike_30
theorem dX8_alike_31 : decode cX8_alike 31 = .ok (.istore 4, 2) := do_36 DX8_alike_31
theorem dX8_alike_33 : decode cX8_alike 33 = .ok (.iload 4, 2) := do_15 DX8_alike_33
theorem dX8_alike_35 : decode cX8_alike 35 = .ok (.bipush 17, 2) := do_10 DX8_alike_35 (by decide +kernel)
theorem dX8_alike_37 : decode cX8_alike 37 = .ok (.if_icmp .ge 20, 3) := do_a2 DX8_alike_37 (by decide +kernel)
theorem dX8_alike_40 : decode cX8_alike 40 = .ok (.aload_n 2, 1) := do_2c DX8_alike_40
theorem dX8_alike_41 : decode cX8_alike 41 = .ok (.iload 4, 2) := do_15 DX8_alike_41
theorem dX8_alike_43 : decode cX8_alike 43 = .ok (.iaload, 1) := do_2e DX8_alike_43
theorem dX8_alike_44 : decode cX8_alike 44 = .ok (.aload_n 3, 1) := do_2d DX8_alike_44
theorem dX8_alike_45 : decode cX8_alike 45 = .ok (.iload 4, 2) := do_15 DX8_alike_45
theorem dX8_alike_47 : decode cX8_alike 47 = .ok (.iaload, 1) := do_2e DX8_alike_47
theorem dX8_alike_48 : decode cX8_alike 48 = .ok (.if_icmp .ne 9, 3) := do_a0 DX8_alike_48 (by decide +kernel)
theorem dX8_alike_51 : decode cX8_alike 51 = .ok (.iinc 4 1, 3) := do_84 DX8_alike_51
theorem dX8_alike_54 : decode cX8_alike 54 = .ok (.goto (-21), 3) := do_a7 DX8_alike_54 (by decide +kernel)
theorem dX8_alike_57 : decode cX8_alike 57 = .ok (.iload 4, 2) := do_15 DX8_alike_57
theorem dX8_alike_59 : decode cX8_alike 59 = .ok (.iconst 1, 1) := do_04 DX8_alike_59
theorem dX8_alike_60 : decode cX8_alike 60 = .ok (.isub, 1) := do_64 DX8_alike_60
theorem dX8_alike_61 : decode cX8_alike 61 = .ok (.ireturn, 1) := do_ac DX8_alike_61
def TX8_rootText_47 : List UInt8 := []
def TX8_rootText_46 : List UInt8 := 176 :: TX8_rootText_47
def TX8_rootText_43 : List UInt8 := 184 :: 0 :: 210 :: TX8_rootText_46
def TX8_rootText_42 : List UInt8 := 28 :: TX8_rootText_43
def TX8_rootText_39 : List UInt8 := 184 :: 0 :: 217 :: TX8_rootText_42
def TX8_rootText_38 : List UInt8 := 27 :: TX8_rootText_39
def TX8_rootText_35 : List UInt8 := 167 :: 0 :: 11 :: TX8_rootText_38
def TX8_rootText_33 : List UInt8 := 18 :: 165 :: TX8_rootText_35
def TX8_rootText_30 : List UInt8 := 153 :: 0 :: 8 :: TX8_rootText_33
def TX8_rootText_27 : List UInt8 := 182 :: 0 :: 149 :: TX8_rootText_30
def TX8_rootText_26 : List UInt8 := 4 :: TX8_rootText_27
def TX8_rootText_25 : List UInt8 := 3 :: TX8_rootText_26
def TX8_rootText_22 : List UInt8 := 167 :: 0 :: 4 :: TX8_rootText_25
def TX8_rootText_21 : List UInt8 := 4 :: TX8_rootText_22
def TX8_rootText_18 : List UInt8 := 154 :: 0 :: 7 :: TX8_rootText_21
def TX8_rootText_15 : List UInt8 := 184 :: 0 :: 49 :: TX8_rootText_18
def TX8_rootText_13 : List UInt8 := 16 :: 16 :: TX8_rootText_15
def TX8_rootText_12 : List UInt8 := 3 :: TX8_rootText_13
def TX8_rootText_11 : List UInt8 := 28 :: TX8_rootText_12
def TX8_rootText_8 : List UInt8 := 153 :: 0 :: 13 :: TX8_rootText_11
def TX8_rootText_5 : List UInt8 := 184 :: 0 :: 49 :: TX8_rootText_8
def TX8_rootText_3 : List UInt8 := 16 :: 99 :: TX8_rootText_5
def TX8_rootText_2 : List UInt8 := 4 :: TX8_rootText_3
def TX8_rootText_1 : List UInt8 := 27 :: TX8_rootText_2
def TX8_rootText_0 : List UInt8 := 42 :: TX8_rootText_1
theorem DX8_rootText_0 : cX8_rootText.data.toList.drop 0 = TX8_rootText_0 := by decide +kernel
theorem DX8_rootText_1 : cX8_rootText.data.toList.drop 1 = TX8_rootText_1 := dr1 DX8_rootText_0
theorem DX8_rootText_2 : cX8_rootText.data.toList.drop 2 = TX8_rootText_2 := dr1 DX8_rootText_1
theorem DX8_rootText_3 : cX8_rootText.data.toList.drop 3 = TX8_rootText_3 := dr1 DX8_rootText_2
theorem DX8_rootText_5 : cX8_rootText.data.toList.drop 5 = TX8_rootText_5 := dr2 DX8_rootText_3
theorem DX8_rootText_8 : cX8_rootText.data.toList.drop 8 = TX8_rootText_8 := dr3 DX8_rootText_5
theorem DX8_rootText_11 : cX8_rootText.data.toList.drop 11 = TX8_rootText_11 := dr3 DX8_rootText_8
theorem DX8_rootText_12 : cX8_rootText.data.toList.drop 12 = TX8_rootText_12 := dr1 DX8_rootText_11
theorem DX8_rootText_13 : cX8_rootText.data.toList.drop 13 = TX8_rootText_13 := dr1 DX8_rootText_12
theorem DX8_rootText_15 : cX8_rootText.data.toList.drop 15 = TX8_rootText_15 := dr2 DX8_rootText_13
theorem DX8_rootText_18 : cX8_rootText.data.toList.drop 18 = TX8_rootText_18 := dr3 DX8_rootText_15
theorem DX8_rootText_21 : cX8_rootText.data.toList.drop 21 = TX8_rootText_21 := dr3 DX8_rootText_18
theorem DX8_rootText_22 : cX8_rootText.data.toList.drop 22 = TX8_rootText_22 := dr1 DX8_rootText_21
theorem DX8_rootText_25 : cX8_rootText.data.toList.drop 25 = TX8_rootText_25 := dr3 DX8_rootText_22
theorem DX8_rootText_26 : cX8_rootText.data.toList.drop 26 = TX8_rootText_26 := dr1 DX8_rootText_25
theorem DX8_rootText_27 : cX8_rootText.data.toList.drop 27 = TX8_rootText_27 := dr1 DX8_rootText_26
theorem DX8_rootText_30 : cX8_rootText.data.toList.drop 30 = TX8_rootText_30 := dr3 DX8_rootText_27
theorem DX8_rootText_33 : cX8_rootText.data.toList.drop 33 = TX8_rootText_33 := dr3 DX8_rootText_30
theorem DX8_rootText_35 : cX8_rootText.data.toList.drop 35 = TX8_rootText_35 := dr2 DX8_rootText_33
theorem DX8_rootText_38 : cX8_rootText.data.toList.drop 38 = TX8_rootText_38 := dr3 DX8_rootText_35
theorem DX8_rootText_39 : cX8_rootText.data.toList.drop 39 = TX8_rootText_39 := dr1 DX8_rootText_38
theorem DX8_rootText_42 : cX8_rootText.data.toList.drop 42 = TX8_rootText_42 := dr3 DX8_rootText_39
theorem DX8_rootText_43 : cX8_rootText.data.toList.drop 43 = TX8_rootText_43 := dr1 DX8_rootText_42
theorem DX8_rootText_46 : cX8_rootText.data.toList.drop 46 = TX8_rootText_46 := dr3 DX8_rootText_43
theorem dX8_rootText_0 : decode cX8_rootText 0 = .ok (.aload_n 0, 1) := do_2a DX8_rootText_0
theorem dX8_rootText_1 : decode cX8_rootText 1 = .ok (.iload_n 1, 1) := do_1b DX8_rootText_1
theorem dX8_rootText_2 : decode cX8_rootText 2 = .ok (.iconst 1, 1) := do_04 DX8_rootText_2
theorem dX8_rootText_3 : decode cX8_rootText 3 = .ok (.bipush 99, 2) := do_10 DX8_rootText_3 (by decide +kernel)
theorem dX8_rootText_5 : decode cX8_rootText 5 = .ok (.invokestatic 49, 3) := do_b8 DX8_rootText_5
theorem dX8_rootText_8 : decode cX8_rootText 8 = .ok (.ifCond .eq 13, 3) := do_99 DX8_rootText_8 (by decide +kernel)
theorem dX8_rootText_11 : decode cX8_rootText 11 = .ok (.iload_n 2, 1) := do_1c DX8_rootText_11
theorem dX8_rootText_12 : decode cX8_rootText 12 = .ok (.iconst 0, 1) := do_03 DX8_rootText_12
theorem dX8_rootText_13 : decode cX8_rootText 13 = .ok (.bipush 16, 2) := do_10 DX8_rootText_13 (by decide +kernel)
theorem dX8_rootText_15 : decode cX8_rootText 15 = .ok (.invokestatic 49, 3) := do_b8 DX8_rootText_15
theorem dX8_rootText_18 : decode cX8_rootText 18 = .ok (.ifCond .ne 7, 3) := do_9a DX8_rootText_18 (by decide +kernel)
theorem dX8_rootText_21 : decode cX8_rootText 21 = .ok (.iconst 1, 1) := do_04 DX8_rootText_21
theorem dX8_rootText_22 : decode cX8_rootText 22 = .ok (.goto 4, 3) := do_a7 DX8_rootText_22 (by decide +kernel)
theorem dX8_rootText_25 : decode cX8_rootText 25 = .ok (.iconst 0, 1) := do_03 DX8_rootText_25
theorem dX8_rootText_26 : decode cX8_rootText 26 = .ok (.iconst 1, 1) := do_04 DX8_rootText_26
theorem dX8_rootText_27 : decode cX8_rootText 27 = .ok (.invokevirtual 149, 3) := do_b6 DX8_rootText_27
theorem dX8_rootText_30 : decode cX8_rootText 30 = .ok (.ifCond .eq 8, 3) := do_99 DX8_rootText_30 (by decide +kernel)
theorem dX8_rootText_33 : decode cX8_rootText 33 = .ok (.ldc 165, 2) := by decide +kernel
theorem dX8_rootText_35 : decode cX8_rootText 35 = .ok (.goto 11, 3) := do_a7 DX8_rootText_35 (by decide +kernel)
theorem dX8_rootText_38 : decode cX8_rootText 38 = .ok (.iload_n 1, 1) := do_1b DX8_rootText_38
theorem dX8_rootText_39 : decode cX8_rootText 39 = .ok (.invokestatic 217, 3) := do_b8 DX8_rootText_39
theorem dX8_rootText_42 : decode cX8_rootText 42 = .ok (.iload_n 2, 1) := do_1c DX8_rootText_42
theorem dX8_rootText_43 : decode cX8_rootText 43 = .ok (.invokestatic 210, 3) := do_b8 DX8_rootText_43
theorem dX8_rootText_46 : decode cX8_rootText 46 = .ok (.areturn, 1) := do_b0 DX8_rootText_46
def TX8_period_21 : List UInt8 := []
def TX8_period_20 : List UInt8 := 172 :: TX8_period_21
def TX8_period_17 : List UInt8 := 184 :: 0 :: 142 :: TX8_period_20
def TX8_period_16 : List UInt8 := 27 :: TX8_period_17
def TX8_period_13 : List UInt8 := 167 :: 0 :: 7 :: TX8_period_16
def TX8_period_12 : List UInt8 := 3 :: TX8_period_13
def TX8_period_9 : List UInt8 := 153 :: 0 :: 7 :: TX8_period_12
def TX8_period_6 : List UInt8 := 182 :: 0 :: 149 :: TX8_period_9
def TX8_period_5 : List UInt8 := 4 :: TX8_period_6
def TX8_period_2 : List UInt8 := 184 :: 0 :: 152 :: TX8_period_5
def TX8_period_1 : List UInt8 := 27 :: TX8_period_2
def TX8_period_0 : List UInt8 := 42 :: TX8_period_1
theorem DX8_period_0 : cX8_period.data.toList.drop 0 = TX8_period_0 := by decide +kernel
theorem DX8_period_1 : cX8_period.data.toList.drop 1 = TX8_period_1 := dr1 DX8_period_0
theorem DX8_period_2 : cX8_period.data.toList.drop 2 = TX8_period_2 := dr1 DX8_period_1
theorem DX8_period_5 : cX8_period.data.toList.drop 5 = TX8_period_5 := dr3 DX8_period_2
theorem DX8_period_6 : cX8_period.data.toList.drop 6 = TX8_period_6 := dr1 DX8_period_5
theorem DX8_period_9 : cX8_period.data.toList.drop 9 = TX8_period_9 := dr3 DX8_period_6
theorem DX8_period_12 : cX8_period.data.toList.drop 12 = TX8_period_12 := dr3 DX8_period_9
theorem DX8_period_13 : cX8_period.data.toList.drop 13 = TX8_period_13 := dr1 DX8_period_12
theorem DX8_period_16 : cX8_period.data.toList.drop 16 = TX8_period_16 := dr3 DX8_period_13
theorem DX8_period_17 : cX8_period.data.toList.drop 17 = TX8_period_17 := dr1 DX8_period_16
theorem DX8_period_20 : cX8_period.data.toList.drop 20 = TX8_period_20 := dr3 DX8_period_17
theorem dX8_period_0 : decode cX8_period 0 = .ok (.aload_n 0, 1) := do_2a DX8_period_0
theorem dX8_period_1 : decode cX8_period 1 = .ok (.iload_n 1, 1) := do_1b DX8_period_1
theorem dX8_period_2 : decode cX8_period 2 = .ok (.invokestatic 152, 3) := do_b8 DX8_period_2
theorem dX8_period_5 : decode cX8_period 5 = .ok (.iconst 1, 1) := do_04 DX8_period_5
theorem dX8_period_6 : decode cX8_period 6 = .ok (.invokevirtual 149, 3) := do_b6 DX8_period_6
theorem dX8_period_9 : decode cX8_period 9 = .ok (.ifCond .eq 7, 3) := do_99 DX8_period_9 (by decide +kernel)
theorem dX8_period_12 : decode cX8_period 12 = .ok (.iconst 0, 1) := do_03 DX8_period_12
theorem dX8_period_13 : decode cX8_period 13 = .ok (.goto 7, 3) := do_a7 DX8_period_13 (by decide +kernel)
theorem dX8_period_16 : decode cX8_period 16 = .ok (.iload_n 1, 1) := do_1b DX8_period_16
theorem dX8_period_17 : decode cX8_period 17 = .ok (.invokestatic 142, 3) := do_b8 DX8_period_17
theorem dX8_period_20 : decode cX8_period 20 = .ok (.ireturn, 1) := do_ac DX8_period_20
def TX8_periodText_76 : List UInt8 := []
def TX8_periodText_75 : List UInt8 := 176 :: TX8_periodText_76
def TX8_periodText_72 : List UInt8 := 182 :: 0 :: 113 :: TX8_periodText_75
def TX8_periodText_71 : List UInt8 := 45 :: TX8_periodText_72
def TX8_periodText_68 : List UInt8 := 167 :: 255 :: 219 :: TX8_periodText_71
def TX8_periodText_65 : List UInt8 := 132 :: 4 :: 1 :: TX8_periodText_68
def TX8_periodText_64 : List UInt8 := 87 :: TX8_periodText_65
def TX8_periodText_61 : List UInt8 := 182 :: 0 :: 204 :: TX8_periodText_64
def TX8_periodText_60 : List UInt8 := 46 :: TX8_periodText_61
def TX8_periodText_59 : List UInt8 := 5 :: TX8_periodText_60
def TX8_periodText_56 : List UInt8 := 184 :: 0 :: 138 :: TX8_periodText_59
def TX8_periodText_54 : List UInt8 := 21 :: 4 :: TX8_periodText_56
def TX8_periodText_53 : List UInt8 := 27 :: TX8_periodText_54
def TX8_periodText_50 : List UInt8 := 182 :: 0 :: 222 :: TX8_periodText_53
def TX8_periodText_48 : List UInt8 := 18 :: 220 :: TX8_periodText_50
def TX8_periodText_45 : List UInt8 := 167 :: 0 :: 5 :: TX8_periodText_48
def TX8_periodText_43 : List UInt8 := 18 :: 165 :: TX8_periodText_45
def TX8_periodText_40 : List UInt8 := 154 :: 0 :: 8 :: TX8_periodText_43
def TX8_periodText_38 : List UInt8 := 21 :: 4 :: TX8_periodText_40
def TX8_periodText_37 : List UInt8 := 45 :: TX8_periodText_38
def TX8_periodText_34 : List UInt8 := 163 :: 0 :: 37 :: TX8_periodText_37
def TX8_periodText_33 : List UInt8 := 28 :: TX8_periodText_34
def TX8_periodText_31 : List UInt8 := 21 :: 4 :: TX8_periodText_33
def TX8_periodText_29 : List UInt8 := 54 :: 4 :: TX8_periodText_31
def TX8_periodText_28 : List UInt8 := 3 :: TX8_periodText_29
def TX8_periodText_27 : List UInt8 := 78 :: TX8_periodText_28
def TX8_periodText_24 : List UInt8 := 183 :: 0 :: 88 :: TX8_periodText_27
def TX8_periodText_23 : List UInt8 := 89 :: TX8_periodText_24
def TX8_periodText_20 : List UInt8 := 187 :: 0 :: 86 :: TX8_periodText_23
def TX8_periodText_19 : List UInt8 := 61 :: TX8_periodText_20
def TX8_periodText_16 : List UInt8 := 184 :: 0 :: 142 :: TX8_periodText_19
def TX8_periodText_15 : List UInt8 := 27 :: TX8_periodText_16
def TX8_periodText_14 : List UInt8 := 176 :: TX8_periodText_15
def TX8_periodText_12 : List UInt8 := 18 :: 165 :: TX8_periodText_14
def TX8_periodText_9 : List UInt8 := 153 :: 0 :: 6 :: TX8_periodText_12
def TX8_periodText_6 : List UInt8 := 182 :: 0 :: 149 :: TX8_periodText_9
def TX8_periodText_5 : List UInt8 := 4 :: TX8_periodText_6
def TX8_periodText_2 : List UInt8 := 184 :: 0 :: 152 :: TX8_periodText_5
def TX8_periodText_1 : List UInt8 := 27 :: TX8_periodText_2
def TX8_periodText_0 : List UInt8 := 42 :: TX8_periodText_1
theorem DX8_periodText_0 : cX8_periodText.data.toList.drop 0 = TX8_periodText_0 := by decide +kernel
theorem DX8_periodText_1 : cX8_periodText.data.toList.drop 1 = TX8_periodText_1 := dr1 DX8_periodText_0
theorem DX8_periodText_2 : cX8_periodText.data.toList.drop 2 = TX8_periodText_2 := dr1 DX8_periodText_1
theorem DX8_periodText_5 : cX8_periodText.data.toList.drop 5 = TX8_periodText_5 := dr3 DX8_periodText_2
theorem DX8_periodText_6 : cX8_periodText.data.toList.drop 6 = TX8_periodText_6 := dr1 DX8_periodText_5
theorem DX8_periodText_9 : cX8_periodText.data.toList.drop 9 = TX8_periodText_9 := dr3 DX8_periodText_6
theorem DX8_periodText_12 : cX8_periodText.data.toList.drop 12 = TX8_periodText_12 := dr3 DX8_periodText_9
theorem DX8_periodText_14 : cX8_periodText.data.toList.drop 14 = TX8_periodText_14 := dr2 DX8_periodText_12
theorem DX8_periodText_15 : cX8_periodText.data.toList.drop 15 = TX8_periodText_15 := dr1 DX8_periodText_14
theorem DX8_periodText_16 : cX8_periodText.data.toList.drop 16 = TX8_periodText_16 := dr1 DX8_periodText_15
theorem DX8_periodText_19 : cX8_periodText.data.toList.drop 19 = TX8_periodText_19 := dr3 DX8_periodText_16
theorem DX8_periodText_20 : cX8_periodText.data.toList.drop 20 = TX8_periodText_20 := dr1 DX8_periodText_19
theorem DX8_periodText_23 : cX8_periodText.data.toList.drop 23 = TX8_periodText_23 := dr3 DX8_periodText_20
theorem DX8_periodText_24 : cX8_periodText.data.toList.drop 24 = TX8_periodText_24 := dr1 DX8_periodText_23
theorem DX8_periodText_27 : cX8_periodText.data.toList.drop 27 = TX8_periodText_27 := dr3 DX8_periodText_24
theorem DX8_periodText_28 : cX8_periodText.data.toList.drop 28 = TX8_periodText_28 := dr1 DX8_periodText_27
theorem DX8_periodText_29 : cX8_periodText.data.toList.drop 29 = TX8_periodText_29 := dr1 DX8_periodText_28
theorem DX8_periodText_31 : cX8_periodText.data.toList.drop 31 = TX8_periodText_31 := dr2 DX8_periodText_29
theorem DX8_periodText_33 : cX8_periodText.data.toList.drop 33 = TX8_periodText_33 := dr2 DX8_periodText_31
theorem DX8_periodText_34 : cX8_periodText.data.toList.drop 34 = TX8_periodText_34 := dr1 DX8_periodText_33
theorem DX8_periodText_37 : cX8_periodText.data.toList.drop 37 = TX8_periodText_37 := dr3 DX8_periodText_34
theorem DX8_periodText_38 : cX8_periodText.data.toList.drop 38 = TX8_periodText_38 := dr1 DX8_periodText_37
theorem DX8_periodText_40 : cX8_periodText.data.toList.drop 40 = TX8_periodText_40 := dr2 DX8_periodText_38
theorem DX8_periodText_43 : cX8_periodText.data.toList.drop 43 = TX8_periodText_43 := dr3 DX8_periodText_40
theorem DX8_periodText_45 : cX8_periodText.data.toList.drop 45 = TX8_periodText_45 := dr2 DX8_periodText_43
theorem DX8_periodText_48 : cX8_periodText.data.toList.drop 48 = TX8_periodText_48 := dr3 DX8_periodText_45
theorem DX8_periodText_50 : cX8_periodText.data.toList.drop 50 = TX8_periodText_50 := dr2 DX8_periodText_48
theorem DX8_periodText_53 : cX8_periodText.data.toList.drop 53 = TX8_periodText_53 := dr3 DX8_periodText_50
theorem DX8_periodText_54 : cX8_periodText.data.toList.drop 54 = TX8_periodText_54 := dr1 DX8_periodText_53
theorem DX8_periodText_56 : cX8_periodText.data.toList.drop 56 = TX8_periodText_56 := dr2 DX8_periodText_54
theorem DX8_periodText_59 : cX8_periodText.data.toList.drop 59 = TX8_periodText_59 := dr3 DX8_periodText_56
theorem DX8_periodText_60 : cX8_periodText.data.toList.drop 60 = TX8_periodText_60 := dr1 DX8_periodText_59
theorem DX8_periodText_61 : cX8_periodText.data.toList.drop 61 = TX8_periodText_61 := dr1 DX8_periodText_60
theorem DX8_periodText_64 : cX8_periodText.data.toList.drop 64 = TX8_periodText_64 := dr3 DX8_periodText_61
theorem DX8_periodText_65 : cX8_periodText.data.toList.drop 65 = TX8_periodText_65 := dr1 DX8_periodText_64
theorem DX8_periodText_68 : cX8_periodText.data.toList.drop 68 = TX8_periodText_68 := dr3 DX8_periodText_65
theorem DX8_periodText_71 : cX8_periodText.data.toList.drop 71 = TX8_periodText_71 := dr3 DX8_periodText_68
theorem DX8_periodText_72 : cX8_periodText.data.toList.drop 72 = TX8_periodText_72 := dr1 DX8_periodText_71
theorem DX8_periodText_75 : cX8_periodText.data.toList.drop 75 = TX8_periodText_75 := dr3 DX8_periodText_72
theorem dX8_periodText_0 : decode cX8_periodText 0 = .ok (.aload_n 0, 1) := do_2a DX8_periodText_0
theorem dX8_periodText_1 : decode cX8_periodText 1 = .ok (.iload_n 1, 1) := do_1b DX8_periodText_1
theorem dX8_periodText_2 : decode cX8_periodText 2 = .ok (.invokestatic 152, 3) := do_b8 DX8_periodText_2
theorem dX8_periodText_5 : decode cX8_periodText 5 = .ok (.iconst 1, 1) := do_04 DX8_periodText_5
theorem dX8_periodText_6 : decode cX8_periodText 6 = .ok (.invokevirtual 149, 3) := do_b6 DX8_periodText_6
theorem dX8_periodText_9 : decode cX8_periodText 9 = .ok (.ifCond .eq 6, 3) := do_99 DX8_periodText_9 (by decide +kernel)
theorem dX8_periodText_12 : decode cX8_periodText 12 = .ok (.ldc 165, 2) := by decide +kernel
theorem dX8_periodText_14 : decode cX8_periodText 14 = .ok (.areturn, 1) := do_b0 DX8_periodText_14
theorem dX8_periodText_15 : decode cX8_periodText 15 = .ok (.iload_n 1, 1) := do_1b DX8_periodText_15
theorem dX8_periodText_16 : decode cX8_periodText 16 = .ok (.invokestatic 142, 3) := do_b8 DX8_periodText_16
theorem dX8_periodText_19 : decode cX8_periodText 19 = .ok (.istore_n 2, 1) := do_3d DX8_periodText_19
theorem dX8_periodText_20 : decode cX8_periodText 20 = .ok (.new 86, 3) := do_bb DX8_periodText_20
theorem dX8_periodText_23 : decode cX8_periodText 23 = .ok (.dup, 1) := do_59 DX8_periodText_23
theorem dX8_periodText_24 : decode cX8_periodText 24 = .ok (.invokespecial 88, 3) := do_b7 DX8_periodText_24
theorem dX8_periodText_27 : decode cX8_periodText 27 = .ok (.astore_n 3, 1) := do_4e DX8_periodText_27
theorem dX8_periodText_28 : decode cX8_periodText 28 = .ok (.iconst 0, 1) := do_03 DX8_periodText_28
theorem dX8_periodText_29 : decode cX8_periodText 29 = .ok (.istore 4, 2) := do_36 DX8_periodText_29
theorem dX8_periodText_31 : decode cX8_periodText 31 = .ok (.iload 4, 2) := do_15 DX8_periodText_31
theorem dX8_periodText_33 : decode cX8_periodText 33 = .ok (.iload_n 2, 1) := do_1c DX8_periodText_33
theorem dX8_periodText_34 : decode cX8_periodText 34 = .ok (.if_icmp .gt 37, 3) := do_a3 DX8_periodText_34 (by decide +kernel)
theorem dX8_periodText_37 : decode cX8_periodText 37 = .ok (.aload_n 3, 1) := do_2d DX8_periodText_37
theorem dX8_periodText_38 : decode cX8_periodText 38 = .ok (.iload 4, 2) := do_15 DX8_periodText_38
theorem dX8_periodText_40 : decode cX8_periodText 40 = .ok (.ifCond .ne 8, 3) := do_9a DX8_periodText_40 (by decide +kernel)
theorem dX8_periodText_43 : decode cX8_periodText 43 = .ok (.ldc 165, 2) := by decide +kernel
theorem dX8_periodText_45 : decode cX8_periodText 45 = .ok (.goto 5, 3) := do_a7 DX8_periodText_45 (by decide +kernel)
theorem dX8_periodText_48 : decode cX8_periodText 48 = .ok (.ldc 220, 2) := by decide +kernel
theorem dX8_periodText_50 : decode cX8_periodText 50 = .ok (.invokevirtual 222, 3) := do_b6 DX8_periodText_50
theorem dX8_periodText_53 : decode cX8_periodText 53 = .ok (.iload_n 1, 1) := do_1b DX8_periodText_53
theorem dX8_periodText_54 : decode cX8_periodText 54 = .ok (.iload 4, 2) := do_15 DX8_periodText_54
theorem dX8_periodText_56 : decode cX8_periodText 56 = .ok (.invokestatic 138, 3) := do_b8 DX8_periodText_56
theorem dX8_periodText_59 : decode cX8_periodText 59 = .ok (.iconst 2, 1) := do_05 DX8_periodText_59
theorem dX8_periodText_60 : decode cX8_periodText 60 = .ok (.iaload, 1) := do_2e DX8_periodText_60
theorem dX8_periodText_61 : decode cX8_periodText 61 = .ok (.invokevirtual 204, 3) := do_b6 DX8_periodText_61
theorem dX8_periodText_64 : decode cX8_periodText 64 = .ok (.pop, 1) := do_57 DX8_periodText_64
theorem dX8_periodText_65 : decode cX8_periodText 65 = .ok (.iinc 4 1, 3) := do_84 DX8_periodText_65
theorem dX8_periodText_68 : decode cX8_periodText 68 = .ok (.goto (-37), 3) := do_a7 DX8_periodText_68 (by decide +kernel)
theorem dX8_periodText_71 : decode cX8_periodText 71 = .ok (.aload_n 3, 1) := do_2d DX8_periodText_71
theorem dX8_periodText_72 : decode cX8_periodText 72 = .ok (.invokevirtual 113, 3) := do_b6 DX8_periodText_72
theorem dX8_periodText_75 : decode cX8_periodText 75 = .ok (.areturn, 1) := do_b0 DX8_periodText_75
def TX8_solution_37 : List UInt8 := []
def TX8_solution_36 : List UInt8 := 176 :: TX8_solution_37
def TX8_solution_33 : List UInt8 := 184 :: 0 :: 171 :: TX8_solution_36
def TX8_solution_31 : List UInt8 := 16 :: 10 :: TX8_solution_33
def TX8_solution_30 : List UInt8 := 50 :: TX8_solution_31
def TX8_solution_29 : List UInt8 := 4 :: TX8_solution_30
def TX8_solution_26 : List UInt8 := 167 :: 0 :: 4 :: TX8_solution_29
def TX8_solution_25 : List UInt8 := 3 :: TX8_solution_26
def TX8_solution_22 : List UInt8 := 153 :: 0 :: 7 :: TX8_solution_25
def TX8_solution_21 : List UInt8 := 28 :: TX8_solution_22
def TX8_solution_18 : List UInt8 := 184 :: 0 :: 225 :: TX8_solution_21
def TX8_solution_17 : List UInt8 := 27 :: TX8_solution_18
def TX8_solution_14 : List UInt8 := 167 :: 0 :: 22 :: TX8_solution_17
def TX8_solution_12 : List UInt8 := 18 :: 165 :: TX8_solution_14
def TX8_solution_9 : List UInt8 := 153 :: 0 :: 8 :: TX8_solution_12
def TX8_solution_6 : List UInt8 := 182 :: 0 :: 149 :: TX8_solution_9
def TX8_solution_5 : List UInt8 := 4 :: TX8_solution_6
def TX8_solution_2 : List UInt8 := 184 :: 0 :: 152 :: TX8_solution_5
def TX8_solution_1 : List UInt8 := 27 :: TX8_solution_2
def TX8_solution_0 : List UInt8 := 42 :: TX8_solution_1
theorem DX8_solution_0 : cX8_solution.data.toList.drop 0 = TX8_solution_0 := by decide +kernel
theorem DX8_solution_1 : cX8_solution.data.toList.drop 1 = TX8_solution_1 := dr1 DX8_solution_0
theorem DX8_solution_2 : cX8_solution.data.toList.drop 2 = TX8_solution_2 := dr1 DX8_solution_1
theorem DX8_solution_5 : cX8_solution.data.toList.drop 5 = TX8_solution_5 := dr3 DX8_solution_2
theorem DX8_solution_6 : cX8_solution.data.toList.drop 6 = TX8_solution_6 := dr1 DX8_solution_5
theorem DX8_solution_9 : cX8_solution.data.toList.drop 9 = TX8_solution_9 := dr3 DX8_solution_6
theorem DX8_solution_12 : cX8_solution.data.toList.drop 12 = TX8_solution_12 := dr3 DX8_solution_9
theorem DX8_solution_14 : cX8_solution.data.toList.drop 14 = TX8_solution_14 := dr2 DX8_solution_12
theorem DX8_solution_17 : cX8_solution.data.toList.drop 17 = TX8_solution_17 := dr3 DX8_solution_14
theorem DX8_solution_18 : cX8_solution.data.toList.drop 18 = TX8_solution_18 := dr1 DX8_solution_17
theorem DX8_solution_21 : cX8_solution.data.toList.drop 21 = TX8_solution_21 := dr3 DX8_solution_18
theorem DX8_solution_22 : cX8_solution.data.toList.drop 22 = TX8_solution_22 := dr1 DX8_solution_21
theorem DX8_solution_25 : cX8_solution.data.toList.drop 25 = TX8_solution_25 := dr3 DX8_solution_22
theorem DX8_solution_26 : cX8_solution.data.toList.drop 26 = TX8_solution_26 := dr1 DX8_solution_25
theorem DX8_solution_29 : cX8_solution.data.toList.drop 29 = TX8_solution_29 := dr3 DX8_solution_26
theorem DX8_solution_30 : cX8_solution.data.toList.drop 30 = TX8_solution_30 := dr1 DX8_solution_29
theorem DX8_solution_31 : cX8_solution.data.toList.drop 31 = TX8_solution_31 := dr1 DX8_solution_30
theorem DX8_solution_33 : cX8_solution.data.toList.drop 33 = TX8_solution_33 := dr2 DX8_solution_31
theorem DX8_solution_36 : cX8_solution.data.toList.drop 36 = TX8_solution_36 := dr3 DX8_solution_33
theorem dX8_solution_0 : decode cX8_solution 0 = .ok (.aload_n 0, 1) := do_2a DX8_solution_0
theorem dX8_solution_1 : decode cX8_solution 1 = .ok (.iload_n 1, 1) := do_1b DX8_solution_1
theorem dX8_solution_2 : decode cX8_solution 2 = .ok (.invokestatic 152, 3) := do_b8 DX8_solution_2
theorem dX8_solution_5 : decode cX8_solution 5 = .ok (.iconst 1, 1) := do_04 DX8_solution_5
theorem dX8_solution_6 : decode cX8_solution 6 = .ok (.invokevirtual 149, 3) := do_b6 DX8_solution_6
theorem dX8_solution_9 : decode cX8_solution 9 = .ok (.ifCond .eq 8, 3) := do_99 DX8_solution_9 (by decide +kernel)
theorem dX8_solution_12 : decode cX8_solution 12 = .ok (.ldc 165, 2) := by decide +kernel
theorem dX8_solution_14 : decode cX8_solution 14 = .ok (.goto 22, 3) := do_a7 DX8_solution_14 (by decide +kernel)
theorem dX8_solution_17 : decode cX8_solution 17 = .ok (.iload_n 1, 1) := do_1b DX8_solution_17
theorem dX8_solution_18 : decode cX8_solution 18 = .ok (.invokestatic 225, 3) := do_b8 DX8_solution_18
theorem dX8_solution_21 : decode cX8_solution 21 = .ok (.iload_n 2, 1) := do_1c DX8_solution_21
theorem dX8_solution_22 : decode cX8_solution 22 = .ok (.ifCond .eq 7, 3) := do_99 DX8_solution_22 (by decide +kernel)
theorem dX8_solution_25 : decode cX8_solution 25 = .ok (.iconst 0, 1) := do_03 DX8_solution_25
theorem dX8_solution_26 : decode cX8_solution 26 = .ok (.goto 4, 3) := do_a7 DX8_solution_26 (by decide +kernel)
theorem dX8_solution_29 : decode cX8_solution 29 = .ok (.iconst 1, 1) := do_04 DX8_solution_29
theorem dX8_solution_30 : decode cX8_solution 30 = .ok (.aaload, 1) := do_32 DX8_solution_30
theorem dX8_solution_31 : decode cX8_solution 31 = .ok (.bipush 10, 2) := do_10 DX8_solution_31 (by decide +kernel)
theorem dX8_solution_33 : decode cX8_solution 33 = .ok (.invokestatic 171, 3) := do_b8 DX8_solution_33
theorem dX8_solution_36 : decode cX8_solution 36 = .ok (.areturn, 1) := do_b0 DX8_solution_36
def TX8_minus__50 : List UInt8 := []
def TX8_minus__49 : List UInt8 := 176 :: TX8_minus__50
def TX8_minus__46 : List UInt8 := 184 :: 0 :: 171 :: TX8_minus__49
def TX8_minus__44 : List UInt8 := 16 :: 10 :: TX8_minus__46
def TX8_minus__43 : List UInt8 := 50 :: TX8_minus__44
def TX8_minus__42 : List UInt8 := 4 :: TX8_minus__43
def TX8_minus__39 : List UInt8 := 167 :: 0 :: 4 :: TX8_minus__42
def TX8_minus__38 : List UInt8 := 3 :: TX8_minus__39
def TX8_minus__35 : List UInt8 := 153 :: 0 :: 7 :: TX8_minus__38
def TX8_minus__34 : List UInt8 := 28 :: TX8_minus__35
def TX8_minus__31 : List UInt8 := 184 :: 0 :: 134 :: TX8_minus__34
def TX8_minus__30 : List UInt8 := 100 :: TX8_minus__31
def TX8_minus__29 : List UInt8 := 4 :: TX8_minus__30
def TX8_minus__26 : List UInt8 := 184 :: 0 :: 142 :: TX8_minus__29
def TX8_minus__25 : List UInt8 := 27 :: TX8_minus__26
def TX8_minus__24 : List UInt8 := 27 :: TX8_minus__25
def TX8_minus__23 : List UInt8 := 176 :: TX8_minus__24
def TX8_minus__21 : List UInt8 := 18 :: 165 :: TX8_minus__23
def TX8_minus__18 : List UInt8 := 154 :: 0 :: 6 :: TX8_minus__21
def TX8_minus__17 : List UInt8 := 112 :: TX8_minus__18
def TX8_minus__16 : List UInt8 := 5 :: TX8_minus__17
def TX8_minus__13 : List UInt8 := 184 :: 0 :: 142 :: TX8_minus__16
def TX8_minus__12 : List UInt8 := 27 :: TX8_minus__13
def TX8_minus__9 : List UInt8 := 154 :: 0 :: 12 :: TX8_minus__12
def TX8_minus__6 : List UInt8 := 182 :: 0 :: 149 :: TX8_minus__9
def TX8_minus__5 : List UInt8 := 4 :: TX8_minus__6
def TX8_minus__2 : List UInt8 := 184 :: 0 :: 152 :: TX8_minus__5
def TX8_minus__1 : List UInt8 := 27 :: TX8_minus__2
def TX8_minus__0 : List UInt8 := 42 :: TX8_minus__1
theorem DX8_minus__0 : cX8_minus_.data.toList.drop 0 = TX8_minus__0 := by decide +kernel
theorem DX8_minus__1 : cX8_minus_.data.toList.drop 1 = TX8_minus__1 := dr1 DX8_minus__0
theorem DX8_minus__2 : cX8_minus_.data.toList.drop 2 = TX8_minus__2 := dr1 DX8_minus__1
theorem DX8_minus__5 : cX8_minus_.data.toList.drop 5 = TX8_minus__5 := dr3 DX8_minus__2
theorem DX8_minus__6 : cX8_minus_.data.toList.drop 6 = TX8_minus__6 := dr1 DX8_minus__5
theorem DX8_minus__9 : cX8_minus_.data.toList.drop 9 = TX8_minus__9 := dr3 DX8_minus__6
theorem DX8_minus__12 : cX8_minus_.data.toList.drop 12 = TX8_minus__12 := dr3 DX8_minus__9
theorem DX8_minus__13 : cX8_minus_.data.toList.drop 13 = TX8_minus__13 := dr1 DX8_minus__12
theorem DX8_minus__16 : cX8_minus_.data.toList.drop 16 = TX8_minus__16 := dr3 DX8_minus__13
theorem DX8_minus__17 : cX8_minus_.data.toList.drop 17 = TX8_minus__17 := dr1 DX8_minus__16
theorem DX8_minus__18 : cX8_minus_.data.toList.drop 18 = TX8_minus__18 := dr1 DX8_minus__17
theorem DX8_minus__21 : cX8_minus_.data.toList.drop 21 = TX8_minus__21 := dr3 DX8_minus__18
theorem DX8_minus__23 : cX8_minus_.data.toList.drop 23 = TX8_minus__23 := dr2 DX8_minus__21
theorem DX8_minus__24 : cX8_minus_.data.toList.drop 24 = TX8_minus__24 := dr1 DX8_minus__23
theorem DX8_minus__25 : cX8_minus_.data.toList.drop 25 = TX8_minus__25 := dr1 DX8_minus__24
theorem DX8_minus__26 : cX8_minus_.data.toList.drop 26 = TX8_minus__26 := dr1 DX8_minus__25
theorem DX8_minus__29 : cX8_minus_.data.toList.drop 29 = TX8_minus__29 := dr3 DX8_minus__26
theorem DX8_minus__30 : cX8_minus_.data.toList.drop 30 = TX8_minus__30 := dr1 DX8_minus__29
theorem DX8_minus__31 : cX8_minus_.data.toList.drop 31 = TX8_minus__31 := dr1 DX8_minus__30
theorem DX8_minus__34 : cX8_minus_.data.toList.drop 34 = TX8_minus__34 := dr3 DX8_minus__31
theorem DX8_minus__35 : cX8_minus_.data.toList.drop 35 = TX8_minus__35 := dr1 DX8_minus__34
theorem DX8_minus__38 : cX8_minus_.data.toList.drop 38 = TX8_minus__38 := dr3 DX8_minus__35
theorem DX8_minus__39 : cX8_minus_.data.toList.drop 39 = TX8_minus__39 := dr1 DX8_minus__38
theorem DX8_minus__42 : cX8_minus_.data.toList.drop 42 = TX8_minus__42 := dr3 DX8_minus__39
theorem DX8_minus__43 : cX8_minus_.data.toList.drop 43 = TX8_minus__43 := dr1 DX8_minus__42
theorem DX8_minus__44 : cX8_minus_.data.toList.drop 44 = TX8_minus__44 := dr1 DX8_minus__43
theorem DX8_minus__46 : cX8_minus_.data.toList.drop 46 = TX8_minus__46 := dr2 DX8_minus__44
theorem DX8_minus__49 : cX8_minus_.data.toList.drop 49 = TX8_minus__49 := dr3 DX8_minus__46
theorem dX8_minus__0 : decode cX8_minus_ 0 = .ok (.aload_n 0, 1) := do_2a DX8_minus__0
theorem dX8_minus__1 : decode cX8_minus_ 1 = .ok (.iload_n 1, 1) := do_1b DX8_minus__1
theorem dX8_minus__2 : decode cX8_minus_ 2 = .ok (.invokestatic 152, 3) := do_b8 DX8_minus__2
theorem dX8_minus__5 : decode cX8_minus_ 5 = .ok (.iconst 1, 1) := do_04 DX8_minus__5
theorem dX8_minus__6 : decode cX8_minus_ 6 = .ok (.invokevirtual 149, 3) := do_b6 DX8_minus__6
theorem dX8_minus__9 : decode cX8_minus_ 9 = .ok (.ifCond .ne 12, 3) := do_9a DX8_minus__9 (by decide +kernel)
theorem dX8_minus__12 : decode cX8_minus_ 12 = .ok (.iload_n 1, 1) := do_1b DX8_minus__12
theorem dX8_minus__13 : decode cX8_minus_ 13 = .ok (.invokestatic 142, 3) := do_b8 DX8_minus__13
theorem dX8_minus__16 : decode cX8_minus_ 16 = .ok (.iconst 2, 1) := do_05 DX8_minus__16
theorem dX8_minus__17 : decode cX8_minus_ 17 = .ok (.irem, 1) := do_70 DX8_minus__17
theorem dX8_minus__18 : decode cX8_minus_ 18 = .ok (.ifCond .ne 6, 3) := do_9a DX8_minus__18 (by decide +kernel)
theorem dX8_minus__21 : decode cX8_minus_ 21 = .ok (.ldc 165, 2) := by decide +kernel
theorem dX8_minus__23 : decode cX8_minus_ 23 = .ok (.areturn, 1) := do_b0 DX8_minus__23
theorem dX8_minus__24 : decode cX8_minus_ 24 = .ok (.iload_n 1, 1) := do_1b DX8_minus__24
theorem dX8_minus__25 : decode cX8_minus_ 25 = .ok (.iload_n 1, 1) := do_1b DX8_minus__25
theorem dX8_minus__26 : decode cX8_minus_ 26 = .ok (.invokestatic 142, 3) := do_b8 DX8_minus__26
theorem dX8_minus__29 : decode cX8_minus_ 29 = .ok (.iconst 1, 1) := do_04 DX8_minus__29
theorem dX8_minus__30 : decode cX8_minus_ 30 = .ok (.isub, 1) := do_64 DX8_minus__30
theorem dX8_minus__31 : decode cX8_minus_ 31 = .ok (.invokestatic 134, 3) := do_b8 DX8_minus__31
theorem dX8_minus__34 : decode cX8_minus_ 34 = .ok (.iload_n 2, 1) := do_1c DX8_minus__34
theorem dX8_minus__35 : decode cX8_minus_ 35 = .ok (.ifCond .eq 7, 3) := do_99 DX8_minus__35 (by decide +kernel)
theorem dX8_minus__38 : decode cX8_minus_ 38 = .ok (.iconst 0, 1) := do_03 DX8_minus__38
theorem dX8_minus__39 : decode cX8_minus_ 39 = .ok (.goto 4, 3) := do_a7 DX8_minus__39 (by decide +kernel)
theorem dX8_minus__42 : decode cX8_minus_ 42 = .ok (.iconst 1, 1) := do_04 DX8_minus__42
theorem dX8_minus__43 : decode cX8_minus_ 43 = .ok (.aaload, 1) := do_32 DX8_minus__43
theorem dX8_minus__44 : decode cX8_minus_ 44 = .ok (.bipush 10, 2) := do_10 DX8_minus__44 (by decide +kernel)
theorem dX8_minus__46 : decode cX8_minus_ 46 = .ok (.invokestatic 171, 3) := do_b8 DX8_minus__46
theorem dX8_minus__49 : decode cX8_minus_ 49 = .ok (.areturn, 1) := do_b0 DX8_minus__49
def TX8_middle_65 : List UInt8 := []
def TX8_middle_64 : List UInt8 := 176 :: TX8_middle_65
def TX8_middle_61 : List UInt8 := 182 :: 0 :: 113 :: TX8_middle_64
def TX8_middle_58 : List UInt8 := 182 :: 0 :: 204 :: TX8_middle_61
def TX8_middle_57 : List UInt8 := 46 :: TX8_middle_58
def TX8_middle_56 : List UInt8 := 4 :: TX8_middle_57
def TX8_middle_55 : List UInt8 := 44 :: TX8_middle_56
def TX8_middle_52 : List UInt8 := 182 :: 0 :: 222 :: TX8_middle_55
def TX8_middle_50 : List UInt8 := 18 :: 220 :: TX8_middle_52
def TX8_middle_47 : List UInt8 := 182 :: 0 :: 204 :: TX8_middle_50
def TX8_middle_46 : List UInt8 := 46 :: TX8_middle_47
def TX8_middle_45 : List UInt8 := 3 :: TX8_middle_46
def TX8_middle_44 : List UInt8 := 44 :: TX8_middle_45
def TX8_middle_41 : List UInt8 := 183 :: 0 :: 88 :: TX8_middle_44
def TX8_middle_40 : List UInt8 := 89 :: TX8_middle_41
def TX8_middle_37 : List UInt8 := 187 :: 0 :: 86 :: TX8_middle_40
def TX8_middle_36 : List UInt8 := 77 :: TX8_middle_37
def TX8_middle_33 : List UInt8 := 184 :: 0 :: 138 :: TX8_middle_36
def TX8_middle_32 : List UInt8 := 108 :: TX8_middle_33
def TX8_middle_31 : List UInt8 := 5 :: TX8_middle_32
def TX8_middle_30 : List UInt8 := 96 :: TX8_middle_31
def TX8_middle_29 : List UInt8 := 4 :: TX8_middle_30
def TX8_middle_26 : List UInt8 := 184 :: 0 :: 142 :: TX8_middle_29
def TX8_middle_25 : List UInt8 := 27 :: TX8_middle_26
def TX8_middle_24 : List UInt8 := 27 :: TX8_middle_25
def TX8_middle_23 : List UInt8 := 176 :: TX8_middle_24
def TX8_middle_21 : List UInt8 := 18 :: 165 :: TX8_middle_23
def TX8_middle_18 : List UInt8 := 154 :: 0 :: 6 :: TX8_middle_21
def TX8_middle_17 : List UInt8 := 112 :: TX8_middle_18
def TX8_middle_16 : List UInt8 := 5 :: TX8_middle_17
def TX8_middle_13 : List UInt8 := 184 :: 0 :: 142 :: TX8_middle_16
def TX8_middle_12 : List UInt8 := 27 :: TX8_middle_13
def TX8_middle_9 : List UInt8 := 154 :: 0 :: 12 :: TX8_middle_12
def TX8_middle_6 : List UInt8 := 182 :: 0 :: 149 :: TX8_middle_9
def TX8_middle_5 : List UInt8 := 4 :: TX8_middle_6
def TX8_middle_2 : List UInt8 := 184 :: 0 :: 152 :: TX8_middle_5
def TX8_middle_1 : List UInt8 := 27 :: TX8_middle_2
def TX8_middle_0 : List UInt8 := 42 :: TX8_middle_1
theorem DX8_middle_0 : cX8_middle.data.toList.drop 0 = TX8_middle_0 := by decide +kernel
theorem DX8_middle_1 : cX8_middle.data.toList.drop 1 = TX8_middle_1 := dr1 DX8_middle_0
theorem DX8_middle_2 : cX8_middle.data.toList.drop 2 = TX8_middle_2 := dr1 DX8_middle_1
theorem DX8_middle_5 : cX8_middle.data.toList.drop 5 = TX8_middle_5 := dr3 DX8_middle_2
theorem DX8_middle_6 : cX8_middle.data.toList.drop 6 = TX8_middle_6 := dr1 DX8_middle_5
theorem DX8_middle_9 : cX8_middle.data.toList.drop 9 = TX8_middle_9 := dr3 DX8_middle_6
theorem DX8_middle_12 : cX8_middle.data.toList.drop 12 = TX8_middle_12 := dr3 DX8_middle_9
theorem DX8_middle_13 : cX8_middle.data.toList.drop 13 = TX8_middle_13 := dr1 DX8_middle_12
theorem DX8_middle_16 : cX8_middle.data.toList.drop 16 = TX8_middle_16 := dr3 DX8_middle_13
theorem DX8_middle_17 : cX8_middle.data.toList.drop 17 = TX8_middle_17 := dr1 DX8_middle_16
theorem DX8_middle_18 : cX8_middle.data.toList.drop 18 = TX8_middle_18 := dr1 DX8_middle_17
theorem DX8_middle_21 : cX8_middle.data.toList.drop 21 = TX8_middle_21 := dr3 DX8_middle_18
theorem DX8_middle_23 : cX8_middle.data.toList.drop 23 = TX8_middle_23 := dr2 DX8_middle_21
theorem DX8_middle_24 : cX8_middle.data.toList.drop 24 = TX8_middle_24 := dr1 DX8_middle_23
theorem DX8_middle_25 : cX8_middle.data.toList.drop 25 = TX8_middle_25 := dr1 DX8_middle_24
theorem DX8_middle_26 : cX8_middle.data.toList.drop 26 = TX8_middle_26 := dr1 DX8_middle_25
theorem DX8_middle_29 : cX8_middle.data.toList.drop 29 = TX8_middle_29 := dr3 DX8_middle_26
theorem DX8_middle_30 : cX8_middle.data.toList.drop 30 = TX8_middle_30 := dr1 DX8_middle_29
theorem DX8_middle_31 : cX8_middle.data.toList.drop 31 = TX8_middle_31 := dr1 DX8_middle_30
theorem DX8_middle_32 : cX8_middle.data.toList.drop 32 = TX8_middle_32 := dr1 DX8_middle_31
theorem DX8_middle_33 : cX8_middle.data.toList.drop 33 = TX8_middle_33 := dr1 DX8_middle_32
theorem DX8_middle_36 : cX8_middle.data.toList.drop 36 = TX8_middle_36 := dr3 DX8_middle_33
theorem DX8_middle_37 : cX8_middle.data.toList.drop 37 = TX8_middle_37 := dr1 DX8_middle_36
theorem DX8_middle_40 : cX8_middle.data.toList.drop 40 = TX8_middle_40 := dr3 DX8_middle_37
theorem DX8_middle_41 : cX8_middle.data.toList.drop 41 = TX8_middle_41 := dr1 DX8_middle_40
theorem DX8_middle_44 : cX8_middle.data.toList.drop 44 = TX8_middle_44 := dr3 DX8_middle_41
theorem DX8_middle_45 : cX8_middle.data.toList.drop 45 = TX8_middle_45 := dr1 DX8_middle_44
theorem DX8_middle_46 : cX8_middle.data.toList.drop 46 = TX8_middle_46 := dr1 DX8_middle_45
theorem DX8_middle_47 : cX8_middle.data.toList.drop 47 = TX8_middle_47 := dr1 DX8_middle_46
theorem DX8_middle_50 : cX8_middle.data.toList.drop 50 = TX8_middle_50 := dr3 DX8_middle_47
theorem DX8_middle_52 : cX8_middle.data.toList.drop 52 = TX8_middle_52 := dr2 DX8_middle_50
theorem DX8_middle_55 : cX8_middle.data.toList.drop 55 = TX8_middle_55 := dr3 DX8_middle_52
theorem DX8_middle_56 : cX8_middle.data.toList.drop 56 = TX8_middle_56 := dr1 DX8_middle_55
theorem DX8_middle_57 : cX8_middle.data.toList.drop 57 = TX8_middle_57 := dr1 DX8_middle_56
theorem DX8_middle_58 : cX8_middle.data.toList.drop 58 = TX8_middle_58 := dr1 DX8_middle_57
theorem DX8_middle_61 : cX8_middle.data.toList.drop 61 = TX8_middle_61 := dr3 DX8_middle_58
theorem DX8_middle_64 : cX8_middle.data.toList.drop 64 = TX8_middle_64 := dr3 DX8_middle_61
theorem dX8_middle_0 : decode cX8_middle 0 = .ok (.aload_n 0, 1) := do_2a DX8_middle_0
theorem dX8_middle_1 : decode cX8_middle 1 = .ok (.iload_n 1, 1) := do_1b DX8_middle_1
theorem dX8_middle_2 : decode cX8_middle 2 = .ok (.invokestatic 152, 3) := do_b8 DX8_middle_2
theorem dX8_middle_5 : decode cX8_middle 5 = .ok (.iconst 1, 1) := do_04 DX8_middle_5
theorem dX8_middle_6 : decode cX8_middle 6 = .ok (.invokevirtual 149, 3) := do_b6 DX8_middle_6
theorem dX8_middle_9 : decode cX8_middle 9 = .ok (.ifCond .ne 12, 3) := do_9a DX8_middle_9 (by decide +kernel)
theorem dX8_middle_12 : decode cX8_middle 12 = .ok (.iload_n 1, 1) := do_1b DX8_middle_12
theorem dX8_middle_13 : decode cX8_middle 13 = .ok (.invokestatic 142, 3) := do_b8 DX8_middle_13
theorem dX8_middle_16 : decode cX8_middle 16 = .ok (.iconst 2, 1) := do_05 DX8_middle_16
theorem dX8_middle_17 : decode cX8_middle 17 = .ok (.irem, 1) := do_70 DX8_middle_17
theorem dX8_middle_18 : decode cX8_middle 18 = .ok (.ifCond .ne 6, 3) := do_9a DX8_middle_18 (by decide +kernel)
theorem dX8_middle_21 : decode cX8_middle 21 = .ok (.ldc 165, 2) := by decide +kernel
theorem dX8_middle_23 : decode cX8_middle 23 = .ok (.areturn, 1) := do_b0 DX8_middle_23
theorem dX8_middle_24 : decode cX8_middle 24 = .ok (.iload_n 1, 1) := do_1b DX8_middle_24
theorem dX8_middle_25 : decode cX8_middle 25 = .ok (.iload_n 1, 1) := do_1b DX8_middle_25
theorem dX8_middle_26 : decode cX8_middle 26 = .ok (.invokestatic 142, 3) := do_b8 DX8_middle_26
theorem dX8_middle_29 : decode cX8_middle 29 = .ok (.iconst 1, 1) := do_04 DX8_middle_29
theorem dX8_middle_30 : decode cX8_middle 30 = .ok (.iadd, 1) := do_60 DX8_middle_30
theorem dX8_middle_31 : decode cX8_middle 31 = .ok (.iconst 2, 1) := do_05 DX8_middle_31
theorem dX8_middle_32 : decode cX8_middle 32 = .ok (.idiv, 1) := do_6c DX8_middle_32
theorem dX8_middle_33 : decode cX8_middle 33 = .ok (.invokestatic 138, 3) := do_b8 DX8_middle_33
theorem dX8_middle_36 : decode cX8_middle 36 = .ok (.astore_n 2, 1) := do_4d DX8_middle_36
theorem dX8_middle_37 : decode cX8_middle 37 = .ok (.new 86, 3) := do_bb DX8_middle_37
theorem dX8_middle_40 : decode cX8_middle 40 = .ok (.dup, 1) := do_59 DX8_middle_40
theorem dX8_middle_41 : decode cX8_middle 41 = .ok (.invokespecial 88, 3) := do_b7 DX8_middle_41
theorem dX8_middle_44 : decode cX8_middle 44 = .ok (.aload_n 2, 1) := do_2c DX8_middle_44
theorem dX8_middle_45 : decode cX8_middle 45 = .ok (.iconst 0, 1) := do_03 DX8_middle_45
theorem dX8_middle_46 : decode cX8_middle 46 = .ok (.iaload, 1) := do_2e DX8_middle_46
theorem dX8_middle_47 : decode cX8_middle 47 = .ok (.invokevirtual 204, 3) := do_b6 DX8_middle_47
theorem dX8_middle_50 : decode cX8_middle 50 = .ok (.ldc 220, 2) := by decide +kernel
theorem dX8_middle_52 : decode cX8_middle 52 = .ok (.invokevirtual 222, 3) := do_b6 DX8_middle_52
theorem dX8_middle_55 : decode cX8_middle 55 = .ok (.aload_n 2, 1) := do_2c DX8_middle_55
theorem dX8_middle_56 : decode cX8_middle 56 = .ok (.iconst 1, 1) := do_04 DX8_middle_56
theorem dX8_middle_57 : decode cX8_middle 57 = .ok (.iaload, 1) := do_2e DX8_middle_57
theorem dX8_middle_58 : decode cX8_middle 58 = .ok (.invokevirtual 204, 3) := do_b6 DX8_middle_58
theorem dX8_middle_61 : decode cX8_middle 61 = .ok (.invokevirtual 113, 3) := do_b6 DX8_middle_61
theorem dX8_middle_64 : decode cX8_middle 64 = .ok (.areturn, 1) := do_b0 DX8_middle_64
def TX8_areSame_29 : List UInt8 := []
def TX8_areSame_28 : List UInt8 := 172 :: TX8_areSame_29
def TX8_areSame_27 : List UInt8 := 3 :: TX8_areSame_28
def TX8_areSame_24 : List UInt8 := 167 :: 0 :: 4 :: TX8_areSame_27
def TX8_areSame_23 : List UInt8 := 4 :: TX8_areSame_24
def TX8_areSame_20 : List UInt8 := 154 :: 0 :: 7 :: TX8_areSame_23
def TX8_areSame_17 : List UInt8 := 184 :: 0 :: 199 :: TX8_areSame_20
def TX8_areSame_15 : List UInt8 := 25 :: 5 :: TX8_areSame_17
def TX8_areSame_14 : List UInt8 := 44 :: TX8_areSame_15
def TX8_areSame_11 : List UInt8 := 154 :: 0 :: 16 :: TX8_areSame_14
def TX8_areSame_8 : List UInt8 := 184 :: 0 :: 199 :: TX8_areSame_11
def TX8_areSame_6 : List UInt8 := 25 :: 4 :: TX8_areSame_8
def TX8_areSame_5 : List UInt8 := 43 :: TX8_areSame_6
def TX8_areSame_2 : List UInt8 := 160 :: 0 :: 25 :: TX8_areSame_5
def TX8_areSame_1 : List UInt8 := 29 :: TX8_areSame_2
def TX8_areSame_0 : List UInt8 := 26 :: TX8_areSame_1
theorem DX8_areSame_0 : cX8_areSame.data.toList.drop 0 = TX8_areSame_0 := by decide +kernel
theorem DX8_areSame_1 : cX8_areSame.data.toList.drop 1 = TX8_areSame_1 := dr1 DX8_areSame_0
theorem DX8_areSame_2 : cX8_areSame.data.toList.drop 2 = TX8_areSame_2 := dr1 DX8_areSame_1
theorem DX8_areSame_5 : cX8_areSame.data.toList.drop 5 = TX8_areSame_5 := dr3 DX8_areSame_2
theorem DX8_areSame_6 : cX8_areSame.data.toList.drop 6 = TX8_areSame_6 := dr1 DX8_areSame_5
theorem DX8_areSame_8 : cX8_areSame.data.toList.drop 8 = TX8_areSame_8 := dr2 DX8_areSame_6
theorem DX8_areSame_11 : cX8_areSame.data.toList.drop 11 = TX8_areSame_11 := dr3 DX8_areSame_8
theorem DX8_areSame_14 : cX8_areSame.data.toList.drop 14 = TX8_areSame_14 := dr3 DX8_areSame_11
theorem DX8_areSame_15 : cX8_areSame.data.toList.drop 15 = TX8_areSame_15 := dr1 DX8_areSame_14
theorem DX8_areSame_17 : cX8_areSame.data.toList.drop 17 = TX8_areSame_17 := dr2 DX8_areSame_15
theorem DX8_areSame_20 : cX8_areSame.data.toList.drop 20 = TX8_areSame_20 := dr3 DX8_areSame_17
theorem DX8_areSame_23 : cX8_areSame.data.toList.drop 23 = TX8_areSame_23 := dr3 DX8_areSame_20
theorem DX8_areSame_24 : cX8_areSame.data.toList.drop 24 = TX8_areSame_24 := dr1 DX8_areSame_23
theorem DX8_areSame_27 : cX8_areSame.data.toList.drop 27 = TX8_areSame_27 := dr3 DX8_areSame_24
theorem DX8_areSame_28 : cX8_areSame.data.toList.drop 28 = TX8_areSame_28 := dr1 DX8_areSame_27
theorem dX8_areSame_0 : decode cX8_areSame 0 = .ok (.iload_n 0, 1) := do_1a DX8_areSame_0
theorem dX8_areSame_1 : decode cX8_areSame 1 = .ok (.iload_n 3, 1) := do_1d DX8_areSame_1
theorem dX8_areSame_2 : decode cX8_areSame 2 = .ok (.if_icmp .ne 25, 3) := do_a0 DX8_areSame_2 (by decide +kernel)
theorem dX8_areSame_5 : decode cX8_areSame 5 = .ok (.aload_n 1, 1) := do_2b DX8_areSame_5
theorem dX8_areSame_6 : decode cX8_areSame 6 = .ok (.aload 4, 2) := do_19 DX8_areSame_6
theorem dX8_areSame_8 : decode cX8_areSame 8 = .ok (.invokestatic 199, 3) := do_b8 DX8_areSame_8
theorem dX8_areSame_11 : decode cX8_areSame 11 = .ok (.ifCond .ne 16, 3) := do_9a DX8_areSame_11 (by decide +kernel)
theorem dX8_areSame_14 : decode cX8_areSame 14 = .ok (.aload_n 2, 1) := do_2c DX8_areSame_14
theorem dX8_areSame_15 : decode cX8_areSame 15 = .ok (.aload 5, 2) := do_19 DX8_areSame_15
theorem dX8_areSame_17 : decode cX8_areSame 17 = .ok (.invokestatic 199, 3) := do_b8 DX8_areSame_17
theorem dX8_areSame_20 : decode cX8_areSame 20 = .ok (.ifCond .ne 7, 3) := do_9a DX8_areSame_20 (by decide +kernel)
theorem dX8_areSame_23 : decode cX8_areSame 23 = .ok (.iconst 1, 1) := do_04 DX8_areSame_23
theorem dX8_areSame_24 : decode cX8_areSame 24 = .ok (.goto 4, 3) := do_a7 DX8_areSame_24 (by decide +kernel)
theorem dX8_areSame_27 : decode cX8_areSame 27 = .ok (.iconst 0, 1) := do_03 DX8_areSame_27
theorem dX8_areSame_28 : decode cX8_areSame 28 = .ok (.ireturn, 1) := do_ac DX8_areSame_28
def TX8_become_65 : List UInt8 := []
def TX8_become_64 : List UInt8 := 172 :: TX8_become_65
def TX8_become_61 : List UInt8 := 182 :: 0 :: 155 :: TX8_become_64
def TX8_become_60 : List UInt8 := 4 :: TX8_become_61
def TX8_become_57 : List UInt8 := 167 :: 0 :: 4 :: TX8_become_60
def TX8_become_56 : List UInt8 := 3 :: TX8_become_57
def TX8_become_53 : List UInt8 := 153 :: 0 :: 7 :: TX8_become_56
def TX8_become_51 : List UInt8 := 21 :: 5 :: TX8_become_53
def TX8_become_50 : List UInt8 := 4 :: TX8_become_51
def TX8_become_49 : List UInt8 := 42 :: TX8_become_50
def TX8_become_48 : List UInt8 := 83 :: TX8_become_49
def TX8_become_46 : List UInt8 := 25 :: 4 :: TX8_become_48
def TX8_become_45 : List UInt8 := 27 :: TX8_become_46
def TX8_become_42 : List UInt8 := 180 :: 0 :: 28 :: TX8_become_45
def TX8_become_41 : List UInt8 := 42 :: TX8_become_42
def TX8_become_40 : List UInt8 := 83 :: TX8_become_41
def TX8_become_39 : List UInt8 := 45 :: TX8_become_40
def TX8_become_38 : List UInt8 := 27 :: TX8_become_39
def TX8_become_35 : List UInt8 := 180 :: 0 :: 24 :: TX8_become_38
def TX8_become_34 : List UInt8 := 42 :: TX8_become_35
def TX8_become_33 : List UInt8 := 79 :: TX8_become_34
def TX8_become_32 : List UInt8 := 28 :: TX8_become_33
def TX8_become_31 : List UInt8 := 27 :: TX8_become_32
def TX8_become_28 : List UInt8 := 180 :: 0 :: 16 :: TX8_become_31
def TX8_become_27 : List UInt8 := 42 :: TX8_become_28
def TX8_become_25 : List UInt8 := 54 :: 5 :: TX8_become_27
def TX8_become_22 : List UInt8 := 184 :: 0 :: 228 :: TX8_become_25
def TX8_become_20 : List UInt8 := 25 :: 4 :: TX8_become_22
def TX8_become_19 : List UInt8 := 45 :: TX8_become_20
def TX8_become_18 : List UInt8 := 28 :: TX8_become_19
def TX8_become_17 : List UInt8 := 50 :: TX8_become_18
def TX8_become_16 : List UInt8 := 27 :: TX8_become_17
def TX8_become_13 : List UInt8 := 180 :: 0 :: 28 :: TX8_become_16
def TX8_become_12 : List UInt8 := 42 :: TX8_become_13
def TX8_become_11 : List UInt8 := 50 :: TX8_become_12
def TX8_become_10 : List UInt8 := 27 :: TX8_become_11
def TX8_become_7 : List UInt8 := 180 :: 0 :: 24 :: TX8_become_10
def TX8_become_6 : List UInt8 := 42 :: TX8_become_7
def TX8_become_5 : List UInt8 := 46 :: TX8_become_6
def TX8_become_4 : List UInt8 := 27 :: TX8_become_5
def TX8_become_1 : List UInt8 := 180 :: 0 :: 16 :: TX8_become_4
def TX8_become_0 : List UInt8 := 42 :: TX8_become_1
theorem DX8_become_0 : cX8_become.data.toList.drop 0 = TX8_become_0 := by decide +kernel
theorem DX8_become_1 : cX8_become.data.toList.drop 1 = TX8_become_1 := dr1 DX8_become_0
theorem DX8_become_4 : cX8_become.data.toList.drop 4 = TX8_become_4 := dr3 DX8_become_1
theorem DX8_become_5 : cX8_become.data.toList.drop 5 = TX8_become_5 := dr1 DX8_become_4
theorem DX8_become_6 : cX8_become.data.toList.drop 6 = TX8_become_6 := dr1 DX8_become_5
theorem DX8_become_7 : cX8_become.data.toList.drop 7 = TX8_become_7 := dr1 DX8_become_6
theorem DX8_become_10 : cX8_become.data.toList.drop 10 = TX8_become_10 := dr3 DX8_become_7
theorem DX8_become_11 : cX8_become.data.toList.drop 11 = TX8_become_11 := dr1 DX8_become_10
theorem DX8_become_12 : cX8_become.data.toList.drop 12 = TX8_become_12 := dr1 DX8_become_11
theorem DX8_become_13 : cX8_become.data.toList.drop 13 = TX8_become_13 := dr1 DX8_become_12
theorem DX8_become_16 : cX8_become.data.toList.drop 16 = TX8_become_16 := dr3 DX8_become_13
theorem DX8_become_17 : cX8_become.data.toList.drop 17 = TX8_become_17 := dr1 DX8_become_16
theorem DX8_become_18 : cX8_become.data.toList.drop 18 = TX8_become_18 := dr1 DX8_become_17
theorem DX8_become_19 : cX8_become.data.toList.drop 19 = TX8_become_19 := dr1 DX8_become_18
theorem DX8_become_20 : cX8_become.data.toList.drop 20 = TX8_become_20 := dr1 DX8_become_19
theorem DX8_become_22 : cX8_become.data.toList.drop 22 = TX8_become_22 := dr2 DX8_become_20
theorem DX8_become_25 : cX8_become.data.toList.drop 25 = TX8_become_25 := dr3 DX8_become_22
theorem DX8_become_27 : cX8_become.data.toList.drop 27 = TX8_become_27 := dr2 DX8_become_25
theorem DX8_become_28 : cX8_become.data.toList.drop 28 = TX8_become_28 := dr1 DX8_become_27
theorem DX8_become_31 : cX8_become.data.toList.drop 31 = TX8_become_31 := dr3 DX8_become_28
theorem DX8_become_32 : cX8_become.data.toList.drop 32 = TX8_become_32 := dr1 DX8_become_31
theorem DX8_become_33 : cX8_become.data.toList.drop 33 = TX8_become_33 := dr1 DX8_become_32
theorem DX8_become_34 : cX8_become.data.toList.drop 34 = TX8_become_34 := dr1 DX8_become_33
theorem DX8_become_35 : cX8_become.data.toList.drop 35 = TX8_become_35 := dr1 DX8_become_34
theorem DX8_become_38 : cX8_become.data.toList.drop 38 = TX8_become_38 := dr3 DX8_become_35
theorem DX8_become_39 : cX8_become.data.toList.drop 39 = TX8_become_39 := dr1 DX8_become_38
theorem DX8_become_40 : cX8_become.data.toList.drop 40 = TX8_become_40 := dr1 DX8_become_39
theorem DX8_become_41 : cX8_become.data.toList.drop 41 = TX8_become_41 := dr1 DX8_become_40
theorem DX8_become_42 : cX8_become.data.toList.drop 42 = TX8_become_42 := dr1 DX8_become_41
theorem DX8_become_45 : cX8_become.data.toList.drop 45 = TX8_become_45 := dr3 DX8_become_42
theorem DX8_become_46 : cX8_become.data.toList.drop 46 = TX8_become_46 := dr1 DX8_become_45
theorem DX8_become_48 : cX8_become.data.toList.drop 48 = TX8_become_48 := dr2 DX8_become_46
theorem DX8_become_49 : cX8_become.data.toList.drop 49 = TX8_become_49 := dr1 DX8_become_48
theorem DX8_become_50 : cX8_become.data.toList.drop 50 = TX8_become_50 := dr1 DX8_become_49
theorem DX8_become_51 : cX8_become.data.toList.drop 51 = TX8_become_51 := dr1 DX8_become_50
theorem DX8_become_53 : cX8_become.data.toList.drop 53 = TX8_become_53 := dr2 DX8_become_51
theorem DX8_become_56 : cX8_become.data.toList.drop 56 = TX8_become_56 := dr3 DX8_become_53
theorem DX8_become_57 : cX8_become.data.toList.drop 57 = TX8_become_57 := dr1 DX8_become_56
theorem DX8_become_60 : cX8_become.data.toList.drop 60 = TX8_become_60 := dr3 DX8_become_57
theorem DX8_become_61 : cX8_become.data.toList.drop 61 = TX8_become_61 := dr1 DX8_become_60
theorem DX8_become_64 : cX8_become.data.toList.drop 64 = TX8_become_64 := dr3 DX8_become_61
theorem dX8_become_0 : decode cX8_become 0 = .ok (.aload_n 0, 1) := do_2a DX8_become_0
theorem dX8_become_1 : decode cX8_become 1 = .ok (.getfield 16, 3) := do_b4 DX8_become_1
theorem dX8_become_4 : decode cX8_become 4 = .ok (.iload_n 1, 1) := do_1b DX8_become_4
theorem dX8_become_5 : decode cX8_become 5 = .ok (.iaload, 1) := do_2e DX8_become_5
theorem dX8_become_6 : decode cX8_become 6 = .ok (.aload_n 0, 1) := do_2a DX8_become_6
theorem dX8_become_7 : decode cX8_become 7 = .ok (.getfield 24, 3) := do_b4 DX8_become_7
theorem dX8_become_10 : decode cX8_become 10 = .ok (.iload_n 1, 1) := do_1b DX8_become_10
theorem dX8_become_11 : decode cX8_become 11 = .ok (.aaload, 1) := do_32 DX8_become_11
theorem dX8_become_12 : decode cX8_become 12 = .ok (.aload_n 0, 1) := do_2a DX8_become_12
theorem dX8_become_13 : decode cX8_become 13 = .ok (.getfield 28, 3) := do_b4 DX8_become_13
theorem dX8_become_16 : decode cX8_become 16 = .ok (.iload_n 1, 1) := do_1b DX8_become_16
theorem dX8_become_17 : decode cX8_become 17 = .ok (.aaload, 1) := do_32 DX8_become_17
theorem dX8_become_18 : decode cX8_become 18 = .ok (.iload_n 2, 1) := do_1c DX8_become_18
theorem dX8_become_19 : decode cX8_become 19 = .ok (.aload_n 3, 1) := do_2d DX8_become_19
theorem dX8_become_20 : decode cX8_become 20 = .ok (.aload 4, 2) := do_19 DX8_become_20
theorem dX8_become_22 : decode cX8_become 22 = .ok (.invokestatic 228, 3) := do_b8 DX8_become_22
theorem dX8_become_25 : decode cX8_become 25 = .ok (.istore 5, 2) := do_36 DX8_become_25
theorem dX8_become_27 : decode cX8_become 27 = .ok (.aload_n 0, 1) := do_2a DX8_become_27
theorem dX8_become_28 : decode cX8_become 28 = .ok (.getfield 16, 3) := do_b4 DX8_become_28
theorem dX8_become_31 : decode cX8_become 31 = .ok (.iload_n 1, 1) := do_1b DX8_become_31
theorem dX8_become_32 : decode cX8_become 32 = .ok (.iload_n 2, 1) := do_1c DX8_become_32
theorem dX8_become_33 : decode cX8_become 33 = .ok (.iastore, 1) := do_4f DX8_become_33
theorem dX8_become_34 : decode cX8_become 34 = .ok (.aload_n 0, 1) := do_2a DX8_become_34
theorem dX8_become_35 : decode cX8_become 35 = .ok (.getfield 24, 3) := do_b4 DX8_become_35
theorem dX8_become_38 : decode cX8_become 38 = .ok (.iload_n 1, 1) := do_1b DX8_become_38
theorem dX8_become_39 : decode cX8_become 39 = .ok (.aload_n 3, 1) := do_2d DX8_become_39
theorem dX8_become_40 : decode cX8_become 40 = .ok (.aastore, 1) := do_53 DX8_become_40
theorem dX8_become_41 : decode cX8_become 41 = .ok (.aload_n 0, 1) := do_2a DX8_become_41
theorem dX8_become_42 : decode cX8_become 42 = .ok (.getfield 28, 3) := do_b4 DX8_become_42
theorem dX8_become_45 : decode cX8_become 45 = .ok (.iload_n 1, 1) := do_1b DX8_become_45
theorem dX8_become_46 : decode cX8_become 46 = .ok (.aload 4, 2) := do_19 DX8_become_46
theorem dX8_become_48 : decode cX8_become 48 = .ok (.aastore, 1) := do_53 DX8_become_48
theorem dX8_become_49 : decode cX8_become 49 = .ok (.aload_n 0, 1) := do_2a DX8_become_49
theorem dX8_become_50 : decode cX8_become 50 = .ok (.iconst 1, 1) := do_04 DX8_become_50
theorem dX8_become_51 : decode cX8_become 51 = .ok (.iload 5, 2) := do_15 DX8_become_51
theorem dX8_become_53 : decode cX8_become 53 = .ok (.ifCond .eq 7, 3) := do_99 DX8_become_53 (by decide +kernel)
theorem dX8_become_56 : decode cX8_become 56 = .ok (.iconst 0, 1) := do_03 DX8_become_56
theorem dX8_become_57 : decode cX8_become 57 = .ok (.goto 4, 3) := do_a7 DX8_become_57 (by decide +kernel)
theorem dX8_become_60 : decode cX8_become 60 = .ok (.iconst 1, 1) := do_04 DX8_become_60
theorem dX8_become_61 : decode cX8_become 61 = .ok (.invokevirtual 155, 3) := do_b6 DX8_become_61
theorem dX8_become_64 : decode cX8_become 64 = .ok (.ireturn, 1) := do_ac DX8_become_64
def TX8_put_79 : List UInt8 := []
def TX8_put_78 : List UInt8 := 172 :: TX8_put_79
def TX8_put_75 : List UInt8 := 182 :: 0 :: 232 :: TX8_put_78
def TX8_put_72 : List UInt8 := 184 :: 0 :: 20 :: TX8_put_75
def TX8_put_71 : List UInt8 := 133 :: TX8_put_72
def TX8_put_69 : List UInt8 := 21 :: 4 :: TX8_put_71
def TX8_put_66 : List UInt8 := 184 :: 0 :: 20 :: TX8_put_69
def TX8_put_65 : List UInt8 := 133 :: TX8_put_66
def TX8_put_64 : List UInt8 := 29 :: TX8_put_65
def TX8_put_63 : List UInt8 := 28 :: TX8_put_64
def TX8_put_62 : List UInt8 := 27 :: TX8_put_63
def TX8_put_61 : List UInt8 := 42 :: TX8_put_62
def TX8_put_60 : List UInt8 := 172 :: TX8_put_61
def TX8_put_59 : List UInt8 := 3 :: TX8_put_60
def TX8_put_56 : List UInt8 := 153 :: 0 :: 5 :: TX8_put_59
def TX8_put_53 : List UInt8 := 182 :: 0 :: 45 :: TX8_put_56
def TX8_put_52 : List UInt8 := 5 :: TX8_put_53
def TX8_put_51 : List UInt8 := 3 :: TX8_put_52
def TX8_put_48 : List UInt8 := 167 :: 0 :: 4 :: TX8_put_51
def TX8_put_47 : List UInt8 := 4 :: TX8_put_48
def TX8_put_44 : List UInt8 := 154 :: 0 :: 7 :: TX8_put_47
def TX8_put_41 : List UInt8 := 184 :: 0 :: 49 :: TX8_put_44
def TX8_put_38 : List UInt8 := 17 :: 3 :: 232 :: TX8_put_41
def TX8_put_35 : List UInt8 := 17 :: 252 :: 24 :: TX8_put_38
def TX8_put_33 : List UInt8 := 21 :: 4 :: TX8_put_35
def TX8_put_30 : List UInt8 := 153 :: 0 :: 17 :: TX8_put_33
def TX8_put_27 : List UInt8 := 184 :: 0 :: 49 :: TX8_put_30
def TX8_put_24 : List UInt8 := 17 :: 3 :: 232 :: TX8_put_27
def TX8_put_21 : List UInt8 := 17 :: 252 :: 24 :: TX8_put_24
def TX8_put_20 : List UInt8 := 29 :: TX8_put_21
def TX8_put_17 : List UInt8 := 154 :: 0 :: 30 :: TX8_put_20
def TX8_put_14 : List UInt8 := 184 :: 0 :: 152 :: TX8_put_17
def TX8_put_13 : List UInt8 := 28 :: TX8_put_14
def TX8_put_12 : List UInt8 := 42 :: TX8_put_13
def TX8_put_9 : List UInt8 := 154 :: 0 :: 50 :: TX8_put_12
def TX8_put_6 : List UInt8 := 182 :: 0 :: 149 :: TX8_put_9
def TX8_put_5 : List UInt8 := 4 :: TX8_put_6
def TX8_put_2 : List UInt8 := 184 :: 0 :: 145 :: TX8_put_5
def TX8_put_1 : List UInt8 := 27 :: TX8_put_2
def TX8_put_0 : List UInt8 := 42 :: TX8_put_1
theorem DX8_put_0 : cX8_put.data.toList.drop 0 = TX8_put_0 := by decide +kernel
theorem DX8_put_1 : cX8_put.data.toList.drop 1 = TX8_put_1 := dr1 DX8_put_0
theorem DX8_put_2 : cX8_put.data.toList.drop 2 = TX8_put_2 := dr1 DX8_put_1
theorem DX8_put_5 : cX8_put.data.toList.drop 5 = TX8_put_5 := dr3 DX8_put_2
theorem DX8_put_6 : cX8_put.data.toList.drop 6 = TX8_put_6 := dr1 DX8_put_5
theorem DX8_put_9 : cX8_put.data.toList.drop 9 = TX8_put_9 := dr3 DX8_put_6
theorem DX8_put_12 : cX8_put.data.toList.drop 12 = TX8_put_12 := dr3 DX8_put_9
theorem DX8_put_13 : cX8_put.data.toList.drop 13 = TX8_put_13 := dr1 DX8_put_12
theorem DX8_put_14 : cX8_put.data.toList.drop 14 = TX8_put_14 := dr1 DX8_put_13
theorem DX8_put_17 : cX8_put.data.toList.drop 17 = TX8_put_17 := dr3 DX8_put_14
theorem DX8_put_20 : cX8_put.data.toList.drop 20 = TX8_put_20 := dr3 DX8_put_17
theorem DX8_put_21 : cX8_put.data.toList.drop 21 = TX8_put_21 := dr1 DX8_put_20
theorem DX8_put_24 : cX8_put.data.toList.drop 24 = TX8_put_24 := dr3 DX8_put_21
theorem DX8_put_27 : cX8_put.data.toList.drop 27 = TX8_put_27 := dr3 DX8_put_24
theorem DX8_put_30 : cX8_put.data.toList.drop 30 = TX8_put_30 := dr3 DX8_put_27
theorem DX8_put_33 : cX8_put.data.toList.drop 33 = TX8_put_33 := dr3 DX8_put_30
theorem DX8_put_35 : cX8_put.data.toList.drop 35 = TX8_put_35 := dr2 DX8_put_33
theorem DX8_put_38 : cX8_put.data.toList.drop 38 = TX8_put_38 := dr3 DX8_put_35
theorem DX8_put_41 : cX8_put.data.toList.drop 41 = TX8_put_41 := dr3 DX8_put_38
theorem DX8_put_44 : cX8_put.data.toList.drop 44 = TX8_put_44 := dr3 DX8_put_41
theorem DX8_put_47 : cX8_put.data.toList.drop 47 = TX8_put_47 := dr3 DX8_put_44
theorem DX8_put_48 : cX8_put.data.toList.drop 48 = TX8_put_48 := dr1 DX8_put_47
theorem DX8_put_51 : cX8_put.data.toList.drop 51 = TX8_put_51 := dr3 DX8_put_48
theorem DX8_put_52 : cX8_put.data.toList.drop 52 = TX8_put_52 := dr1 DX8_put_51
theorem DX8_put_53 : cX8_put.data.toList.drop 53 = TX8_put_53 := dr1 DX8_put_52
theorem DX8_put_56 : cX8_put.data.toList.drop 56 = TX8_put_56 := dr3 DX8_put_53
theorem DX8_put_59 : cX8_put.data.toList.drop 59 = TX8_put_59 := dr3 DX8_put_56
theorem DX8_put_60 : cX8_put.data.toList.drop 60 = TX8_put_60 := dr1 DX8_put_59
theorem DX8_put_61 : cX8_put.data.toList.drop 61 = TX8_put_61 := dr1 DX8_put_60
theorem DX8_put_62 : cX8_put.data.toList.drop 62 = TX8_put_62 := dr1 DX8_put_61
theorem DX8_put_63 : cX8_put.data.toList.drop 63 = TX8_put_63 := dr1 DX8_put_62
theorem DX8_put_64 : cX8_put.data.toList.drop 64 = TX8_put_64 := dr1 DX8_put_63
theorem DX8_put_65 : cX8_put.data.toList.drop 65 = TX8_put_65 := dr1 DX8_put_64
theorem DX8_put_66 : cX8_put.data.toList.drop 66 = TX8_put_66 := dr1 DX8_put_65
theorem DX8_put_69 : cX8_put.data.toList.drop 69 = TX8_put_69 := dr3 DX8_put_66
theorem DX8_put_71 : cX8_put.data.toList.drop 71 = TX8_put_71 := dr2 DX8_put_69
theorem DX8_put_72 : cX8_put.data.toList.drop 72 = TX8_put_72 := dr1 DX8_put_71
theorem DX8_put_75 : cX8_put.data.toList.drop 75 = TX8_put_75 := dr3 DX8_put_72
theorem DX8_put_78 : cX8_put.data.toList.drop 78 = TX8_put_78 := dr3 DX8_put_75
theorem dX8_put_0 : decode cX8_put 0 = .ok (.aload_n 0, 1) := do_2a DX8_put_0
theorem dX8_put_1 : decode cX8_put 1 = .ok (.iload_n 1, 1) := do_1b DX8_put_1
theorem dX8_put_2 : decode cX8_put 2 = .ok (.invokestatic 145, 3) := do_b8 DX8_put_2
theorem dX8_put_5 : decode cX8_put 5 = .ok (.iconst 1, 1) := do_04 DX8_put_5
theorem dX8_put_6 : decode cX8_put 6 = .ok (.invokevirtual 149, 3) := do_b6 DX8_put_6
theorem dX8_put_9 : decode cX8_put 9 = .ok (.ifCond .ne 50, 3) := do_9a DX8_put_9 (by decide +kernel)
theorem dX8_put_12 : decode cX8_put 12 = .ok (.aload_n 0, 1) := do_2a DX8_put_12
theorem dX8_put_13 : decode cX8_put 13 = .ok (.iload_n 2, 1) := do_1c DX8_put_13
theorem dX8_put_14 : decode cX8_put 14 = .ok (.invokestatic 152, 3) := do_b8 DX8_put_14
theorem dX8_put_17 : decode cX8_put 17 = .ok (.ifCond .ne 30, 3) := do_9a DX8_put_17 (by decide +kernel)
theorem dX8_put_20 : decode cX8_put 20 = .ok (.iload_n 3, 1) := do_1d DX8_put_20
theorem dX8_put_21 : decode cX8_put 21 = .ok (.sipush (-1000), 3) := do_11 DX8_put_21 (by decide +kernel)
theorem dX8_put_24 : decode cX8_put 24 = .ok (.sipush 1000, 3) := do_11 DX8_put_24 (by decide +kernel)
theorem dX8_put_27 : decode cX8_put 27 = .ok (.invokestatic 49, 3) := do_b8 DX8_put_27
theorem dX8_put_30 : decode cX8_put 30 = .ok (.ifCond .eq 17, 3) := do_99 DX8_put_30 (by decide +kernel)
theorem dX8_put_33 : decode cX8_put 33 = .ok (.iload 4, 2) := do_15 DX8_put_33
theorem dX8_put_35 : decode cX8_put 35 = .ok (.sipush (-1000), 3) := do_11 DX8_put_35 (by decide +kernel)
theorem dX8_put_38 : decode cX8_put 38 = .ok (.sipush 1000, 3) := do_11 DX8_put_38 (by decide +kernel)
theorem dX8_put_41 : decode cX8_put 41 = .ok (.invokestatic 49, 3) := do_b8 DX8_put_41
theorem dX8_put_44 : decode cX8_put 44 = .ok (.ifCond .ne 7, 3) := do_9a DX8_put_44 (by decide +kernel)
theorem dX8_put_47 : decode cX8_put 47 = .ok (.iconst 1, 1) := do_04 DX8_put_47
theorem dX8_put_48 : decode cX8_put 48 = .ok (.goto 4, 3) := do_a7 DX8_put_48 (by decide +kernel)
theorem dX8_put_51 : decode cX8_put 51 = .ok (.iconst 0, 1) := do_03 DX8_put_51
theorem dX8_put_52 : decode cX8_put 52 = .ok (.iconst 2, 1) := do_05 DX8_put_52
theorem dX8_put_53 : decode cX8_put 53 = .ok (.invokevirtual 45, 3) := do_b6 DX8_put_53
theorem dX8_put_56 : decode cX8_put 56 = .ok (.ifCond .eq 5, 3) := do_99 DX8_put_56 (by decide +kernel)
theorem dX8_put_59 : decode cX8_put 59 = .ok (.iconst 0, 1) := do_03 DX8_put_59
theorem dX8_put_60 : decode cX8_put 60 = .ok (.ireturn, 1) := do_ac DX8_put_60
theorem dX8_put_61 : decode cX8_put 61 = .ok (.aload_n 0, 1) := do_2a DX8_put_61
theorem dX8_put_62 : decode cX8_put 62 = .ok (.iload_n 1, 1) := do_1b DX8_put_62
theorem dX8_put_63 : decode cX8_put 63 = .ok (.iload_n 2, 1) := do_1c DX8_put_63
theorem dX8_put_64 : decode cX8_put 64 = .ok (.iload_n 3, 1) := do_1d DX8_put_64
theorem dX8_put_65 : decode cX8_put 65 = .ok (.i2l, 1) := do_85 DX8_put_65
theorem dX8_put_66 : decode cX8_put 66 = .ok (.invokestatic 20, 3) := do_b8 DX8_put_66
theorem dX8_put_69 : decode cX8_put 69 = .ok (.iload 4, 2) := do_15 DX8_put_69
theorem dX8_put_71 : decode cX8_put 71 = .ok (.i2l, 1) := do_85 DX8_put_71
theorem dX8_put_72 : decode cX8_put 72 = .ok (.invokestatic 20, 3) := do_b8 DX8_put_72
theorem dX8_put_75 : decode cX8_put 75 = .ok (.invokevirtual 232, 3) := do_b6 DX8_put_75
theorem dX8_put_78 : decode cX8_put 78 = .ok (.ireturn, 1) := do_ac DX8_put_78
def TX8_take_78 : List UInt8 := []
def TX8_take_77 : List UInt8 := 172 :: TX8_take_78
def TX8_take_74 : List UInt8 := 182 :: 0 :: 232 :: TX8_take_77
def TX8_take_73 : List UInt8 := 50 :: TX8_take_74
def TX8_take_72 : List UInt8 := 4 :: TX8_take_73
def TX8_take_71 : List UInt8 := 45 :: TX8_take_72
def TX8_take_70 : List UInt8 := 50 :: TX8_take_71
def TX8_take_69 : List UInt8 := 3 :: TX8_take_70
def TX8_take_68 : List UInt8 := 45 :: TX8_take_69
def TX8_take_67 : List UInt8 := 46 :: TX8_take_68
def TX8_take_66 : List UInt8 := 27 :: TX8_take_67
def TX8_take_63 : List UInt8 := 180 :: 0 :: 9 :: TX8_take_66
def TX8_take_62 : List UInt8 := 42 :: TX8_take_63
def TX8_take_61 : List UInt8 := 28 :: TX8_take_62
def TX8_take_60 : List UInt8 := 42 :: TX8_take_61
def TX8_take_57 : List UInt8 := 167 :: 0 :: 20 :: TX8_take_60
def TX8_take_54 : List UInt8 := 182 :: 0 :: 158 :: TX8_take_57
def TX8_take_53 : List UInt8 := 42 :: TX8_take_54
def TX8_take_50 : List UInt8 := 153 :: 0 :: 10 :: TX8_take_53
def TX8_take_47 : List UInt8 := 184 :: 0 :: 236 :: TX8_take_50
def TX8_take_46 : List UInt8 := 50 :: TX8_take_47
def TX8_take_45 : List UInt8 := 4 :: TX8_take_46
def TX8_take_44 : List UInt8 := 45 :: TX8_take_45
def TX8_take_41 : List UInt8 := 154 :: 0 :: 12 :: TX8_take_44
def TX8_take_38 : List UInt8 := 184 :: 0 :: 236 :: TX8_take_41
def TX8_take_37 : List UInt8 := 50 :: TX8_take_38
def TX8_take_36 : List UInt8 := 3 :: TX8_take_37
def TX8_take_35 : List UInt8 := 45 :: TX8_take_36
def TX8_take_34 : List UInt8 := 78 :: TX8_take_35
def TX8_take_31 : List UInt8 := 182 :: 0 :: 167 :: TX8_take_34
def TX8_take_30 : List UInt8 := 27 :: TX8_take_31
def TX8_take_29 : List UInt8 := 42 :: TX8_take_30
def TX8_take_28 : List UInt8 := 172 :: TX8_take_29
def TX8_take_27 : List UInt8 := 3 :: TX8_take_28
def TX8_take_24 : List UInt8 := 153 :: 0 :: 5 :: TX8_take_27
def TX8_take_21 : List UInt8 := 182 :: 0 :: 149 :: TX8_take_24
def TX8_take_20 : List UInt8 := 4 :: TX8_take_21
def TX8_take_19 : List UInt8 := 3 :: TX8_take_20
def TX8_take_16 : List UInt8 := 167 :: 0 :: 4 :: TX8_take_19
def TX8_take_15 : List UInt8 := 4 :: TX8_take_16
def TX8_take_12 : List UInt8 := 153 :: 0 :: 7 :: TX8_take_15
def TX8_take_9 : List UInt8 := 184 :: 0 :: 145 :: TX8_take_12
def TX8_take_8 : List UInt8 := 28 :: TX8_take_9
def TX8_take_5 : List UInt8 := 154 :: 0 :: 10 :: TX8_take_8
def TX8_take_2 : List UInt8 := 184 :: 0 :: 145 :: TX8_take_5
def TX8_take_1 : List UInt8 := 27 :: TX8_take_2
def TX8_take_0 : List UInt8 := 42 :: TX8_take_1
theorem DX8_take_0 : cX8_take.data.toList.drop 0 = TX8_take_0 := by decide +kernel
theorem DX8_take_1 : cX8_take.data.toList.drop 1 = TX8_take_1 := dr1 DX8_take_0
theorem DX8_take_2 : cX8_take.data.toList.drop 2 = TX8_take_2 := dr1 DX8_take_1
theorem DX8_take_5 : cX8_take.data.toList.drop 5 = TX8_take_5 := dr3 DX8_take_2
theorem DX8_take_8 : cX8_take.data.toList.drop 8 = TX8_take_8 := dr3 DX8_take_5
theorem DX8_take_9 : cX8_take.data.toList.drop 9 = TX8_take_9 := dr1 DX8_take_8
theorem DX8_take_12 : cX8_take.data.toList.drop 12 = TX8_take_12 := dr3 DX8_take_9
theorem DX8_take_15 : cX8_take.data.toList.drop 15 = TX8_take_15 := dr3 DX8_take_12
theorem DX8_take_16 : cX8_take.data.toList.drop 16 = TX8_take_16 := dr1 DX8_take_15
theorem DX8_take_19 : cX8_take.data.toList.drop 19 = TX8_take_19 := dr3 DX8_take_16
theorem DX8_take_20 : cX8_take.data.toList.drop 20 = TX8_take_20 := dr1 DX8_take_19
theorem DX8_take_21 : cX8_take.data.toList.drop 21 = TX8_take_21 := dr1 DX8_take_20
theorem DX8_take_24 : cX8_take.data.toList.drop 24 = TX8_take_24 := dr3 DX8_take_21
theorem DX8_take_27 : cX8_take.data.toList.drop 27 = TX8_take_27 := dr3 DX8_take_24
theorem DX8_take_28 : cX8_take.data.toList.drop 28 = TX8_take_28 := dr1 DX8_take_27
theorem DX8_take_29 : cX8_take.data.toList.drop 29 = TX8_take_29 := dr1 DX8_take_28
theorem DX8_take_30 : cX8_take.data.toList.drop 30 = TX8_take_30 := dr1 DX8_take_29
theorem DX8_take_31 : cX8_take.data.toList.drop 31 = TX8_take_31 := dr1 DX8_take_30
theorem DX8_take_34 : cX8_take.data.toList.drop 34 = TX8_take_34 := dr3 DX8_take_31
theorem DX8_take_35 : cX8_take.data.toList.drop 35 = TX8_take_35 := dr1 DX8_take_34
theorem DX8_take_36 : cX8_take.data.toList.drop 36 = TX8_take_36 := dr1 DX8_take_35
theorem DX8_take_37 : cX8_take.data.toList.drop 37 = TX8_take_37 := dr1 DX8_take_36
theorem DX8_take_38 : cX8_take.data.toList.drop 38 = TX8_take_38 := dr1 DX8_take_37
theorem DX8_take_41 : cX8_take.data.toList.drop 41 = TX8_take_41 := dr3 DX8_take_38
theorem DX8_take_44 : cX8_take.data.toList.drop 44 = TX8_take_44 := dr3 DX8_take_41
theorem DX8_take_45 : cX8_take.data.toList.drop 45 = TX8_take_45 := dr1 DX8_take_44
theorem DX8_take_46 : cX8_take.data.toList.drop 46 = TX8_take_46 := dr1 DX8_take_45
theorem DX8_take_47 : cX8_take.data.toList.drop 47 = TX8_take_47 := dr1 DX8_take_46
theorem DX8_take_50 : cX8_take.data.toList.drop 50 = TX8_take_50 := dr3 DX8_take_47
theorem DX8_take_53 : cX8_take.data.toList.drop 53 = TX8_take_53 := dr3 DX8_take_50
theorem DX8_take_54 : cX8_take.data.toList.drop 54 = TX8_take_54 := dr1 DX8_take_53
theorem DX8_take_57 : cX8_take.data.toList.drop 57 = TX8_take_57 := dr3 DX8_take_54
theorem DX8_take_60 : cX8_take.data.toList.drop 60 = TX8_take_60 := dr3 DX8_take_57
theorem DX8_take_61 : cX8_take.data.toList.drop 61 = TX8_take_61 := dr1 DX8_take_60
theorem DX8_take_62 : cX8_take.data.toList.drop 62 = TX8_take_62 := dr1 DX8_take_61
theorem DX8_take_63 : cX8_take.data.toList.drop 63 = TX8_take_63 := dr1 DX8_take_62
theorem DX8_take_66 : cX8_take.data.toList.drop 66 = TX8_take_66 := dr3 DX8_take_63
theorem DX8_take_67 : cX8_take.data.toList.drop 67 = TX8_take_67 := dr1 DX8_take_66
theorem DX8_take_68 : cX8_take.data.toList.drop 68 = TX8_take_68 := dr1 DX8_take_67
theorem DX8_take_69 : cX8_take.data.toList.drop 69 = TX8_take_69 := dr1 DX8_take_68
theorem DX8_take_70 : cX8_take.data.toList.drop 70 = TX8_take_70 := dr1 DX8_take_69
theorem DX8_take_71 : cX8_take.data.toList.drop 71 = TX8_take_71 := dr1 DX8_take_70
theorem DX8_take_72 : cX8_take.data.toList.drop 72 = TX8_take_72 := dr1 DX8_take_71
theorem DX8_take_73 : cX8_take.data.toList.drop 73 = TX8_take_73 := dr1 DX8_take_72
theorem DX8_take_74 : cX8_take.data.toList.drop 74 = TX8_take_74 := dr1 DX8_take_73
theorem DX8_take_77 : cX8_take.data.toList.drop 77 = TX8_take_77 := dr3 DX8_take_74
theorem dX8_take_0 : decode cX8_take 0 = .ok (.aload_n 0, 1) := do_2a DX8_take_0
theorem dX8_take_1 : decode cX8_take 1 = .ok (.iload_n 1, 1) := do_1b DX8_take_1
theorem dX8_take_2 : decode cX8_take 2 = .ok (.invokestatic 145, 3) := do_b8 DX8_take_2
theorem dX8_take_5 : decode cX8_take 5 = .ok (.ifCond .ne 10, 3) := do_9a DX8_take_5 (by decide +kernel)
theorem dX8_take_8 : decode cX8_take 8 = .ok (.iload_n 2, 1) := do_1c DX8_take_8
theorem dX8_take_9 : decode cX8_take 9 = .ok (.invokestatic 145, 3) := do_b8 DX8_take_9
theorem dX8_take_12 : decode cX8_take 12 = .ok (.ifCond .eq 7, 3) := do_99 DX8_take_12 (by decide +kernel)
theorem dX8_take_15 : decode cX8_take 15 = .ok (.iconst 1, 1) := do_04 DX8_take_15
theorem dX8_take_16 : decode cX8_take 16 = .ok (.goto 4, 3) := do_a7 DX8_take_16 (by decide +kernel)
theorem dX8_take_19 : decode cX8_take 19 = .ok (.iconst 0, 1) := do_03 DX8_take_19
theorem dX8_take_20 : decode cX8_take 20 = .ok (.iconst 1, 1) := do_04 DX8_take_20
theorem dX8_take_21 : decode cX8_take 21 = .ok (.invokevirtual 149, 3) := do_b6 DX8_take_21
theorem dX8_take_24 : decode cX8_take 24 = .ok (.ifCond .eq 5, 3) := do_99 DX8_take_24 (by decide +kernel)
theorem dX8_take_27 : decode cX8_take 27 = .ok (.iconst 0, 1) := do_03 DX8_take_27
theorem dX8_take_28 : decode cX8_take 28 = .ok (.ireturn, 1) := do_ac DX8_take_28
theorem dX8_take_29 : decode cX8_take 29 = .ok (.aload_n 0, 1) := do_2a DX8_take_29
theorem dX8_take_30 : decode cX8_take 30 = .ok (.iload_n 1, 1) := do_1b DX8_take_30
theorem dX8_take_31 : decode cX8_take 31 = .ok (.invokevirtual 167, 3) := do_b6 DX8_take_31
theorem dX8_take_34 : decode cX8_take 34 = .ok (.astore_n 3, 1) := do_4e DX8_take_34
theorem dX8_take_35 : decode cX8_take 35 = .ok (.aload_n 3, 1) := do_2d DX8_take_35
theorem dX8_take_36 : decode cX8_take 36 = .ok (.iconst 0, 1) := do_03 DX8_take_36
theorem dX8_take_37 : decode cX8_take 37 = .ok (.aaload, 1) := do_32 DX8_take_37
theorem dX8_take_38 : decode cX8_take 38 = .ok (.invokestatic 236, 3) := do_b8 DX8_take_38
theorem dX8_take_41 : decode cX8_take 41 = .ok (.ifCond .ne 12, 3) := do_9a DX8_take_41 (by decide +kernel)
theorem dX8_take_44 : decode cX8_take 44 = .ok (.aload_n 3, 1) := do_2d DX8_take_44
theorem dX8_take_45 : decode cX8_take 45 = .ok (.iconst 1, 1) := do_04 DX8_take_45
theorem dX8_take_46 : decode cX8_take 46 = .ok (.aaload, 1) := do_32 DX8_take_46
theorem dX8_take_47 : decode cX8_take 47 = .ok (.invokestatic 236, 3) := do_b8 DX8_take_47
theorem dX8_take_50 : decode cX8_take 50 = .ok (.ifCond .eq 10, 3) := do_99 DX8_take_50 (by decide +kernel)
theorem dX8_take_53 : decode cX8_take 53 = .ok (.aload_n 0, 1) := do_2a DX8_take_53
theorem dX8_take_54 : decode cX8_take 54 = .ok (.invokevirtual 158, 3) := do_b6 DX8_take_54
theorem dX8_take_57 : decode cX8_take 57 = .ok (.goto 20, 3) := do_a7 DX8_take_57 (by decide +kernel)
theorem dX8_take_60 : decode cX8_take 60 = .ok (.aload_n 0, 1) := do_2a DX8_take_60
theorem dX8_take_61 : decode cX8_take 61 = .ok (.iload_n 2, 1) := do_1c DX8_take_61
theorem dX8_take_62 : decode cX8_take 62 = .ok (.aload_n 0, 1) := do_2a DX8_take_62
theorem dX8_take_63 : decode cX8_take 63 = .ok (.getfield 9, 3) := do_b4 DX8_take_63
theorem dX8_take_66 : decode cX8_take 66 = .ok (.iload_n 1, 1) := do_1b DX8_take_66
theorem dX8_take_67 : decode cX8_take 67 = .ok (.iaload, 1) := do_2e DX8_take_67
theorem dX8_take_68 : decode cX8_take 68 = .ok (.aload_n 3, 1) := do_2d DX8_take_68
theorem dX8_take_69 : decode cX8_take 69 = .ok (.iconst 0, 1) := do_03 DX8_take_69
theorem dX8_take_70 : decode cX8_take 70 = .ok (.aaload, 1) := do_32 DX8_take_70
theorem dX8_take_71 : decode cX8_take 71 = .ok (.aload_n 3, 1) := do_2d DX8_take_71
theorem dX8_take_72 : decode cX8_take 72 = .ok (.iconst 1, 1) := do_04 DX8_take_72
theorem dX8_take_73 : decode cX8_take 73 = .ok (.aaload, 1) := do_32 DX8_take_73
theorem dX8_take_74 : decode cX8_take 74 = .ok (.invokevirtual 232, 3) := do_b6 DX8_take_74
theorem dX8_take_77 : decode cX8_take 77 = .ok (.ireturn, 1) := do_ac DX8_take_77
def TX8_least_44 : List UInt8 := []
def TX8_least_43 : List UInt8 := 172 :: TX8_least_44
def TX8_least_40 : List UInt8 := 182 :: 0 :: 232 :: TX8_least_43
def TX8_least_39 : List UInt8 := 50 :: TX8_least_40
def TX8_least_38 : List UInt8 := 4 :: TX8_least_39
def TX8_least_37 : List UInt8 := 45 :: TX8_least_38
def TX8_least_36 : List UInt8 := 50 :: TX8_least_37
def TX8_least_35 : List UInt8 := 3 :: TX8_least_36
def TX8_least_34 : List UInt8 := 45 :: TX8_least_35
def TX8_least_33 : List UInt8 := 28 :: TX8_least_34
def TX8_least_32 : List UInt8 := 27 :: TX8_least_33
def TX8_least_31 : List UInt8 := 42 :: TX8_least_32
def TX8_least_30 : List UInt8 := 78 :: TX8_least_31
def TX8_least_27 : List UInt8 := 184 :: 0 :: 225 :: TX8_least_30
def TX8_least_26 : List UInt8 := 28 :: TX8_least_27
def TX8_least_25 : List UInt8 := 172 :: TX8_least_26
def TX8_least_24 : List UInt8 := 3 :: TX8_least_25
def TX8_least_21 : List UInt8 := 153 :: 0 :: 5 :: TX8_least_24
def TX8_least_18 : List UInt8 := 182 :: 0 :: 45 :: TX8_least_21
def TX8_least_17 : List UInt8 := 5 :: TX8_least_18
def TX8_least_14 : List UInt8 := 184 :: 0 :: 152 :: TX8_least_17
def TX8_least_13 : List UInt8 := 28 :: TX8_least_14
def TX8_least_12 : List UInt8 := 42 :: TX8_least_13
def TX8_least_9 : List UInt8 := 154 :: 0 :: 15 :: TX8_least_12
def TX8_least_6 : List UInt8 := 182 :: 0 :: 149 :: TX8_least_9
def TX8_least_5 : List UInt8 := 4 :: TX8_least_6
def TX8_least_2 : List UInt8 := 184 :: 0 :: 145 :: TX8_least_5
def TX8_least_1 : List UInt8 := 27 :: TX8_least_2
def TX8_least_0 : List UInt8 := 42 :: TX8_least_1
theorem DX8_least_0 : cX8_least.data.toList.drop 0 = TX8_least_0 := by decide +kernel
theorem DX8_least_1 : cX8_least.data.toList.drop 1 = TX8_least_1 := dr1 DX8_least_0
theorem DX8_least_2 : cX8_least.data.toList.drop 2 = TX8_least_2 := dr1 DX8_least_1
theorem DX8_least_5 : cX8_least.data.toList.drop 5 = TX8_least_5 := dr3 DX8_least_2
theorem DX8_least_6 : cX8_least.data.toList.drop 6 = TX8_least_6 := dr1 DX8_least_5
theorem DX8_least_9 : cX8_least.data.toList.drop 9 = TX8_least_9 := dr3 DX8_least_6
theorem DX8_least_12 : cX8_least.data.toList.drop 12 = TX8_least_12 := dr3 DX8_least_9
theorem DX8_least_13 : cX8_least.data.toList.drop 13 = TX8_least_13 := dr1 DX8_least_12
theorem DX8_least_14 : cX8_least.data.toList.drop 14 = TX8_least_14 := dr1 DX8_least_13
theorem DX8_least_17 : cX8_least.data.toList.drop 17 = TX8_least_17 := dr3 DX8_least_14
theorem DX8_least_18 : cX8_least.data.toList.drop 18 = TX8_least_18 := dr1 DX8_least_17
theorem DX8_least_21 : cX8_least.data.toList.drop 21 = TX8_least_21 := dr3 DX8_least_18
theorem DX8_least_24 : cX8_least.data.toList.drop 24 = TX8_least_24 := dr3 DX8_least_21
theorem DX8_least_25 : cX8_least.data.toList.drop 25 = TX8_least_25 := dr1 DX8_least_24
theorem DX8_least_26 : cX8_least.data.toList.drop 26 = TX8_least_26 := dr1 DX8_least_25
theorem DX8_least_27 : cX8_least.data.toList.drop 27 = TX8_least_27 := dr1 DX8_least_26
theorem DX8_least_30 : cX8_least.data.toList.drop 30 = TX8_least_30 := dr3 DX8_least_27
theorem DX8_least_31 : cX8_least.data.toList.drop 31 = TX8_least_31 := dr1 DX8_least_30
theorem DX8_least_32 : cX8_least.data.toList.drop 32 = TX8_least_32 := dr1 DX8_least_31
theorem DX8_least_33 : cX8_least.data.toList.drop 33 = TX8_least_33 := dr1 DX8_least_32
theorem DX8_least_34 : cX8_least.data.toList.drop 34 = TX8_least_34 := dr1 DX8_least_33
theorem DX8_least_35 : cX8_least.data.toList.drop 35 = TX8_least_35 := dr1 DX8_least_34
theorem DX8_least_36 : cX8_least.data.toList.drop 36 = TX8_least_36 := dr1 DX8_least_35
theorem DX8_least_37 : cX8_least.data.toList.drop 37 = TX8_least_37 := dr1 DX8_least_36
theorem DX8_least_38 : cX8_least.data.toList.drop 38 = TX8_least_38 := dr1 DX8_least_37
theorem DX8_least_39 : cX8_least.data.toList.drop 39 = TX8_least_39 := dr1 DX8_least_38
theorem DX8_least_40 : cX8_least.data.toList.drop 40 = TX8_least_40 := dr1 DX8_least_39
theorem DX8_least_43 : cX8_least.data.toList.drop 43 = TX8_least_43 := dr3 DX8_least_40
theorem dX8_least_0 : decode cX8_least 0 = .ok (.aload_n 0, 1) := do_2a DX8_least_0
theorem dX8_least_1 : decode cX8_least 1 = .ok (.iload_n 1, 1) := do_1b DX8_least_1
theorem dX8_least_2 : decode cX8_least 2 = .ok (.invokestatic 145, 3) := do_b8 DX8_least_2
theorem dX8_least_5 : decode cX8_least 5 = .ok (.iconst 1, 1) := do_04 DX8_least_5
theorem dX8_least_6 : decode cX8_least 6 = .ok (.invokevirtual 149, 3) := do_b6 DX8_least_6
theorem dX8_least_9 : decode cX8_least 9 = .ok (.ifCond .ne 15, 3) := do_9a DX8_least_9 (by decide +kernel)
theorem dX8_least_12 : decode cX8_least 12 = .ok (.aload_n 0, 1) := do_2a DX8_least_12
theorem dX8_least_13 : decode cX8_least 13 = .ok (.iload_n 2, 1) := do_1c DX8_least_13
theorem dX8_least_14 : decode cX8_least 14 = .ok (.invokestatic 152, 3) := do_b8 DX8_least_14
theorem dX8_least_17 : decode cX8_least 17 = .ok (.iconst 2, 1) := do_05 DX8_least_17
theorem dX8_least_18 : decode cX8_least 18 = .ok (.invokevirtual 45, 3) := do_b6 DX8_least_18
theorem dX8_least_21 : decode cX8_least 21 = .ok (.ifCond .eq 5, 3) := do_99 DX8_least_21 (by decide +kernel)
theorem dX8_least_24 : decode cX8_least 24 = .ok (.iconst 0, 1) := do_03 DX8_least_24
theorem dX8_least_25 : decode cX8_least 25 = .ok (.ireturn, 1) := do_ac DX8_least_25
theorem dX8_least_26 : decode cX8_least 26 = .ok (.iload_n 2, 1) := do_1c DX8_least_26
theorem dX8_least_27 : decode cX8_least 27 = .ok (.invokestatic 225, 3) := do_b8 DX8_least_27
theorem dX8_least_30 : decode cX8_least 30 = .ok (.astore_n 3, 1) := do_4e DX8_least_30
theorem dX8_least_31 : decode cX8_least 31 = .ok (.aload_n 0, 1) := do_2a DX8_least_31
theorem dX8_least_32 : decode cX8_least 32 = .ok (.iload_n 1, 1) := do_1b DX8_least_32
theorem dX8_least_33 : decode cX8_least 33 = .ok (.iload_n 2, 1) := do_1c DX8_least_33
theorem dX8_least_34 : decode cX8_least 34 = .ok (.aload_n 3, 1) := do_2d DX8_least_34
theorem dX8_least_35 : decode cX8_least 35 = .ok (.iconst 0, 1) := do_03 DX8_least_35
theorem dX8_least_36 : decode cX8_least 36 = .ok (.aaload, 1) := do_32 DX8_least_36
theorem dX8_least_37 : decode cX8_least 37 = .ok (.aload_n 3, 1) := do_2d DX8_least_37
theorem dX8_least_38 : decode cX8_least 38 = .ok (.iconst 1, 1) := do_04 DX8_least_38
theorem dX8_least_39 : decode cX8_least 39 = .ok (.aaload, 1) := do_32 DX8_least_39
theorem dX8_least_40 : decode cX8_least 40 = .ok (.invokevirtual 232, 3) := do_b6 DX8_least_40
theorem dX8_least_43 : decode cX8_least 43 = .ok (.ireturn, 1) := do_ac DX8_least_43
def TX8_product_47 : List UInt8 := []
def TX8_product_46 : List UInt8 := 176 :: TX8_product_47
def TX8_product_45 : List UInt8 := 83 :: TX8_product_46
def TX8_product_42 : List UInt8 := 184 :: 0 :: 81 :: TX8_product_45
def TX8_product_39 : List UInt8 := 184 :: 0 :: 124 :: TX8_product_42
def TX8_product_38 : List UInt8 := 45 :: TX8_product_39
def TX8_product_37 : List UInt8 := 44 :: TX8_product_38
def TX8_product_34 : List UInt8 := 184 :: 0 :: 124 :: TX8_product_37
def TX8_product_32 : List UInt8 := 25 :: 4 :: TX8_product_34
def TX8_product_31 : List UInt8 := 43 :: TX8_product_32
def TX8_product_30 : List UInt8 := 4 :: TX8_product_31
def TX8_product_29 : List UInt8 := 89 :: TX8_product_30
def TX8_product_28 : List UInt8 := 83 :: TX8_product_29
def TX8_product_25 : List UInt8 := 184 :: 0 :: 81 :: TX8_product_28
def TX8_product_22 : List UInt8 := 184 :: 0 :: 124 :: TX8_product_25
def TX8_product_19 : List UInt8 := 184 :: 0 :: 124 :: TX8_product_22
def TX8_product_17 : List UInt8 := 25 :: 4 :: TX8_product_19
def TX8_product_16 : List UInt8 := 44 :: TX8_product_17
def TX8_product_13 : List UInt8 := 184 :: 0 :: 20 :: TX8_product_16
def TX8_product_12 : List UInt8 := 133 :: TX8_product_13
def TX8_product_11 : List UInt8 := 26 :: TX8_product_12
def TX8_product_8 : List UInt8 := 184 :: 0 :: 124 :: TX8_product_11
def TX8_product_7 : List UInt8 := 45 :: TX8_product_8
def TX8_product_6 : List UInt8 := 43 :: TX8_product_7
def TX8_product_5 : List UInt8 := 3 :: TX8_product_6
def TX8_product_4 : List UInt8 := 89 :: TX8_product_5
def TX8_product_1 : List UInt8 := 189 :: 0 :: 19 :: TX8_product_4
def TX8_product_0 : List UInt8 := 5 :: TX8_product_1
theorem DX8_product_0 : cX8_product.data.toList.drop 0 = TX8_product_0 := by decide +kernel
theorem DX8_product_1 : cX8_product.data.toList.drop 1 = TX8_product_1 := dr1 DX8_product_0
theorem DX8_product_4 : cX8_product.data.toList.drop 4 = TX8_product_4 := dr3 DX8_product_1
theorem DX8_product_5 : cX8_product.data.toList.drop 5 = TX8_product_5 := dr1 DX8_product_4
theorem DX8_product_6 : cX8_product.data.toList.drop 6 = TX8_product_6 := dr1 DX8_product_5
theorem DX8_product_7 : cX8_product.data.toList.drop 7 = TX8_product_7 := dr1 DX8_product_6
theorem DX8_product_8 : cX8_product.data.toList.drop 8 = TX8_product_8 := dr1 DX8_product_7
theorem DX8_product_11 : cX8_product.data.toList.drop 11 = TX8_product_11 := dr3 DX8_product_8
theorem DX8_product_12 : cX8_product.data.toList.drop 12 = TX8_product_12 := dr1 DX8_product_11
theorem DX8_product_13 : cX8_product.data.toList.drop 13 = TX8_product_13 := dr1 DX8_product_12
theorem DX8_product_16 : cX8_product.data.toList.drop 16 = TX8_product_16 := dr3 DX8_product_13
theorem DX8_product_17 : cX8_product.data.toList.drop 17 = TX8_product_17 := dr1 DX8_product_16
theorem DX8_product_19 : cX8_product.data.toList.drop 19 = TX8_product_19 := dr2 DX8_product_17
theorem DX8_product_22 : cX8_product.data.toList.drop 22 = TX8_product_22 := dr3 DX8_product_19
theorem DX8_product_25 : cX8_product.data.toList.drop 25 = TX8_product_25 := dr3 DX8_product_22
theorem DX8_product_28 : cX8_product.data.toList.drop 28 = TX8_product_28 := dr3 DX8_product_25
theorem DX8_product_29 : cX8_product.data.toList.drop 29 = TX8_product_29 := dr1 DX8_product_28
theorem DX8_product_30 : cX8_product.data.toList.drop 30 = TX8_product_30 := dr1 DX8_product_29
theorem DX8_product_31 : cX8_product.data.toList.drop 31 = TX8_product_31 := dr1 DX8_product_30
theorem DX8_product_32 : cX8_product.data.toList.drop 32 = TX8_product_32 := dr1 DX8_product_31
theorem DX8_product_34 : cX8_product.data.toList.drop 34 = TX8_product_34 := dr2 DX8_product_32
theorem DX8_product_37 : cX8_product.data.toList.drop 37 = TX8_product_37 := dr3 DX8_product_34
theorem DX8_product_38 : cX8_product.data.toList.drop 38 = TX8_product_38 := dr1 DX8_product_37
theorem DX8_product_39 : cX8_product.data.toList.drop 39 = TX8_product_39 := dr1 DX8_product_38
theorem DX8_product_42 : cX8_product.data.toList.drop 42 = TX8_product_42 := dr3 DX8_product_39
theorem DX8_product_45 : cX8_product.data.toList.drop 45 = TX8_product_45 := dr3 DX8_product_42
theorem DX8_product_46 : cX8_product.data.toList.drop 46 = TX8_product_46 := dr1 DX8_product_45
theorem dX8_product_0 : decode cX8_product 0 = .ok (.iconst 2, 1) := do_05 DX8_product_0
theorem dX8_product_1 : decode cX8_product 1 = .ok (.anewarray 19, 3) := by decide +kernel
theorem dX8_product_4 : decode cX8_product 4 = .ok (.dup, 1) := do_59 DX8_product_4
theorem dX8_product_5 : decode cX8_product 5 = .ok (.iconst 0, 1) := do_03 DX8_product_5
theorem dX8_product_6 : decode cX8_product 6 = .ok (.aload_n 1, 1) := do_2b DX8_product_6
theorem dX8_product_7 : decode cX8_product 7 = .ok (.aload_n 3, 1) := do_2d DX8_product_7
theorem dX8_product_8 : decode cX8_product 8 = .ok (.invokestatic 124, 3) := do_b8 DX8_product_8
theorem dX8_product_11 : decode cX8_product 11 = .ok (.iload_n 0, 1) := do_1a DX8_product_11
theorem dX8_product_12 : decode cX8_product 12 = .ok (.i2l, 1) := do_85 DX8_product_12
theorem dX8_product_13 : decode cX8_product 13 = .ok (.invokestatic 20, 3) := do_b8 DX8_product_13
theorem dX8_product_16 : decode cX8_product 16 = .ok (.aload_n 2, 1) := do_2c DX8_product_16
theorem dX8_product_17 : decode cX8_product 17 = .ok (.aload 4, 2) := do_19 DX8_product_17
theorem dX8_product_19 : decode cX8_product 19 = .ok (.invokestatic 124, 3) := do_b8 DX8_product_19
theorem dX8_product_22 : decode cX8_product 22 = .ok (.invokestatic 124, 3) := do_b8 DX8_product_22
theorem dX8_product_25 : decode cX8_product 25 = .ok (.invokestatic 81, 3) := do_b8 DX8_product_25
theorem dX8_product_28 : decode cX8_product 28 = .ok (.aastore, 1) := do_53 DX8_product_28
theorem dX8_product_29 : decode cX8_product 29 = .ok (.dup, 1) := do_59 DX8_product_29
theorem dX8_product_30 : decode cX8_product 30 = .ok (.iconst 1, 1) := do_04 DX8_product_30
theorem dX8_product_31 : decode cX8_product 31 = .ok (.aload_n 1, 1) := do_2b DX8_product_31
theorem dX8_product_32 : decode cX8_product 32 = .ok (.aload 4, 2) := do_19 DX8_product_32
theorem dX8_product_34 : decode cX8_product 34 = .ok (.invokestatic 124, 3) := do_b8 DX8_product_34
theorem dX8_product_37 : decode cX8_product 37 = .ok (.aload_n 2, 1) := do_2c DX8_product_37
theorem dX8_product_38 : decode cX8_product 38 = .ok (.aload_n 3, 1) := do_2d DX8_product_38
theorem dX8_product_39 : decode cX8_product 39 = .ok (.invokestatic 124, 3) := do_b8 DX8_product_39
theorem dX8_product_42 : decode cX8_product 42 = .ok (.invokestatic 81, 3) := do_b8 DX8_product_42
theorem dX8_product_45 : decode cX8_product 45 = .ok (.aastore, 1) := do_53 DX8_product_45
theorem dX8_product_46 : decode cX8_product 46 = .ok (.areturn, 1) := do_b0 DX8_product_46
def TX8_compose_138 : List UInt8 := []
def TX8_compose_137 : List UInt8 := 172 :: TX8_compose_138
def TX8_compose_134 : List UInt8 := 182 :: 0 :: 232 :: TX8_compose_137
def TX8_compose_133 : List UInt8 := 50 :: TX8_compose_134
def TX8_compose_132 : List UInt8 := 4 :: TX8_compose_133
def TX8_compose_130 : List UInt8 := 25 :: 4 :: TX8_compose_132
def TX8_compose_129 : List UInt8 := 50 :: TX8_compose_130
def TX8_compose_128 : List UInt8 := 3 :: TX8_compose_129
def TX8_compose_126 : List UInt8 := 25 :: 4 :: TX8_compose_128
def TX8_compose_125 : List UInt8 := 46 :: TX8_compose_126
def TX8_compose_124 : List UInt8 := 27 :: TX8_compose_125
def TX8_compose_121 : List UInt8 := 180 :: 0 :: 16 :: TX8_compose_124
def TX8_compose_120 : List UInt8 := 42 :: TX8_compose_121
def TX8_compose_119 : List UInt8 := 29 :: TX8_compose_120
def TX8_compose_118 : List UInt8 := 42 :: TX8_compose_119
def TX8_compose_115 : List UInt8 := 167 :: 0 :: 22 :: TX8_compose_118
def TX8_compose_112 : List UInt8 := 182 :: 0 :: 158 :: TX8_compose_115
def TX8_compose_111 : List UInt8 := 42 :: TX8_compose_112
def TX8_compose_108 : List UInt8 := 153 :: 0 :: 10 :: TX8_compose_111
def TX8_compose_105 : List UInt8 := 184 :: 0 :: 236 :: TX8_compose_108
def TX8_compose_104 : List UInt8 := 50 :: TX8_compose_105
def TX8_compose_103 : List UInt8 := 4 :: TX8_compose_104
def TX8_compose_101 : List UInt8 := 25 :: 4 :: TX8_compose_103
def TX8_compose_98 : List UInt8 := 154 :: 0 :: 13 :: TX8_compose_101
def TX8_compose_95 : List UInt8 := 184 :: 0 :: 236 :: TX8_compose_98
def TX8_compose_94 : List UInt8 := 50 :: TX8_compose_95
def TX8_compose_93 : List UInt8 := 3 :: TX8_compose_94
def TX8_compose_91 : List UInt8 := 25 :: 4 :: TX8_compose_93
def TX8_compose_89 : List UInt8 := 58 :: 4 :: TX8_compose_91
def TX8_compose_86 : List UInt8 := 184 :: 0 :: 239 :: TX8_compose_89
def TX8_compose_85 : List UInt8 := 50 :: TX8_compose_86
def TX8_compose_84 : List UInt8 := 28 :: TX8_compose_85
def TX8_compose_81 : List UInt8 := 180 :: 0 :: 28 :: TX8_compose_84
def TX8_compose_80 : List UInt8 := 42 :: TX8_compose_81
def TX8_compose_79 : List UInt8 := 50 :: TX8_compose_80
def TX8_compose_78 : List UInt8 := 28 :: TX8_compose_79
def TX8_compose_75 : List UInt8 := 180 :: 0 :: 24 :: TX8_compose_78
def TX8_compose_74 : List UInt8 := 42 :: TX8_compose_75
def TX8_compose_73 : List UInt8 := 50 :: TX8_compose_74
def TX8_compose_72 : List UInt8 := 27 :: TX8_compose_73
def TX8_compose_69 : List UInt8 := 180 :: 0 :: 28 :: TX8_compose_72
def TX8_compose_68 : List UInt8 := 42 :: TX8_compose_69
def TX8_compose_67 : List UInt8 := 50 :: TX8_compose_68
def TX8_compose_66 : List UInt8 := 27 :: TX8_compose_67
def TX8_compose_63 : List UInt8 := 180 :: 0 :: 24 :: TX8_compose_66
def TX8_compose_62 : List UInt8 := 42 :: TX8_compose_63
def TX8_compose_61 : List UInt8 := 46 :: TX8_compose_62
def TX8_compose_60 : List UInt8 := 27 :: TX8_compose_61
def TX8_compose_57 : List UInt8 := 180 :: 0 :: 16 :: TX8_compose_60
def TX8_compose_56 : List UInt8 := 42 :: TX8_compose_57
def TX8_compose_55 : List UInt8 := 172 :: TX8_compose_56
def TX8_compose_52 : List UInt8 := 182 :: 0 :: 158 :: TX8_compose_55
def TX8_compose_51 : List UInt8 := 42 :: TX8_compose_52
def TX8_compose_48 : List UInt8 := 159 :: 0 :: 8 :: TX8_compose_51
def TX8_compose_47 : List UInt8 := 46 :: TX8_compose_48
def TX8_compose_46 : List UInt8 := 28 :: TX8_compose_47
def TX8_compose_43 : List UInt8 := 180 :: 0 :: 16 :: TX8_compose_46
def TX8_compose_42 : List UInt8 := 42 :: TX8_compose_43
def TX8_compose_41 : List UInt8 := 46 :: TX8_compose_42
def TX8_compose_40 : List UInt8 := 27 :: TX8_compose_41
def TX8_compose_37 : List UInt8 := 180 :: 0 :: 16 :: TX8_compose_40
def TX8_compose_36 : List UInt8 := 42 :: TX8_compose_37
def TX8_compose_35 : List UInt8 := 172 :: TX8_compose_36
def TX8_compose_34 : List UInt8 := 3 :: TX8_compose_35
def TX8_compose_31 : List UInt8 := 153 :: 0 :: 5 :: TX8_compose_34
def TX8_compose_28 : List UInt8 := 182 :: 0 :: 149 :: TX8_compose_31
def TX8_compose_27 : List UInt8 := 4 :: TX8_compose_28
def TX8_compose_26 : List UInt8 := 3 :: TX8_compose_27
def TX8_compose_23 : List UInt8 := 167 :: 0 :: 4 :: TX8_compose_26
def TX8_compose_22 : List UInt8 := 4 :: TX8_compose_23
def TX8_compose_19 : List UInt8 := 153 :: 0 :: 7 :: TX8_compose_22
def TX8_compose_16 : List UInt8 := 184 :: 0 :: 145 :: TX8_compose_19
def TX8_compose_15 : List UInt8 := 29 :: TX8_compose_16
def TX8_compose_12 : List UInt8 := 154 :: 0 :: 10 :: TX8_compose_15
def TX8_compose_9 : List UInt8 := 184 :: 0 :: 145 :: TX8_compose_12
def TX8_compose_8 : List UInt8 := 28 :: TX8_compose_9
def TX8_compose_5 : List UInt8 := 154 :: 0 :: 17 :: TX8_compose_8
def TX8_compose_2 : List UInt8 := 184 :: 0 :: 145 :: TX8_compose_5
def TX8_compose_1 : List UInt8 := 27 :: TX8_compose_2
def TX8_compose_0 : List UInt8 := 42 :: TX8_compose_1
theorem DX8_compose_0 : cX8_compose.data.toList.drop 0 = TX8_compose_0 := by decide +kernel
theorem DX8_compose_1 : cX8_compose.data.toList.drop 1 = TX8_compose_1 := dr1 DX8_compose_0
theorem DX8_compose_2 : cX8_compose.data.toList.drop 2 = TX8_compose_2 := dr1 DX8_compose_1
theorem DX8_compose_5 : cX8_compose.data.toList.drop 5 = TX8_compose_5 := dr3 DX8_compose_2
theorem DX8_compose_8 : cX8_compose.data.toList.drop 8 = TX8_compose_8 := dr3 DX8_compose_5
theorem DX8_compose_9 : cX8_compose.data.toList.drop 9 = TX8_compose_9 := dr1 DX8_compose_8
theorem DX8_compose_12 : cX8_compose.data.toList.drop 12 = TX8_compose_12 := dr3 DX8_compose_9
theorem DX8_compose_15 : cX8_compose.data.toList.drop 15 = TX8_compose_15 := dr3 DX8_compose_12
theorem DX8_compose_16 : cX8_compose.data.toList.drop 16 = TX8_compose_16 := dr1 DX8_compose_15
theorem DX8_compose_19 : cX8_compose.data.toList.drop 19 = TX8_compose_19 := dr3 DX8_compose_16
theorem DX8_compose_22 : cX8_compose.data.toList.drop 22 = TX8_compose_22 := dr3 DX8_compose_19
theorem DX8_compose_23 : cX8_compose.data.toList.drop 23 = TX8_compose_23 := dr1 DX8_compose_22
theorem DX8_compose_26 : cX8_compose.data.toList.drop 26 = TX8_compose_26 := dr3 DX8_compose_23
theorem DX8_compose_27 : cX8_compose.data.toList.drop 27 = TX8_compose_27 := dr1 DX8_compose_26
theorem DX8_compose_28 : cX8_compose.data.toList.drop 28 = TX8_compose_28 := dr1 DX8_compose_27
theorem DX8_compose_31 : cX8_compose.data.toList.drop 31 = TX8_compose_31 := dr3 DX8_compose_28
theorem DX8_compose_34 : cX8_compose.data.toList.drop 34 = TX8_compose_34 := dr3 DX8_compose_31
theorem DX8_compose_35 : cX8_compose.data.toList.drop 35 = TX8_compose_35 := dr1 DX8_compose_34
theorem DX8_compose_36 : cX8_compose.data.toList.drop 36 = TX8_compose_36 := dr1 DX8_compose_35
theorem DX8_compose_37 : cX8_compose.data.toList.drop 37 = TX8_compose_37 := dr1 DX8_compose_36
theorem DX8_compose_40 : cX8_compose.data.toList.drop 40 = TX8_compose_40 := dr3 DX8_compose_37
theorem DX8_compose_41 : cX8_compose.data.toList.drop 41 = TX8_compose_41 := dr1 DX8_compose_40
theorem DX8_compose_42 : cX8_compose.data.toList.drop 42 = TX8_compose_42 := dr1 DX8_compose_41
theorem DX8_compose_43 : cX8_compose.data.toList.drop 43 = TX8_compose_43 := dr1 DX8_compose_42
theorem DX8_compose_46 : cX8_compose.data.toList.drop 46 = TX8_compose_46 := dr3 DX8_compose_43
theorem DX8_compose_47 : cX8_compose.data.toList.drop 47 = TX8_compose_47 := dr1 DX8_compose_46
theorem DX8_compose_48 : cX8_compose.data.toList.drop 48 = TX8_compose_48 := dr1 DX8_compose_47
theorem DX8_compose_51 : cX8_compose.data.toList.drop 51 = TX8_compose_51 := dr3 DX8_compose_48
theorem DX8_compose_52 : cX8_compose.data.toList.drop 52 = TX8_compose_52 := dr1 DX8_compose_51
theorem DX8_compose_55 : cX8_compose.data.toList.drop 55 = TX8_compose_55 := dr3 DX8_compose_52
theorem DX8_compose_56 : cX8_compose.data.toList.drop 56 = TX8_compose_56 := dr1 DX8_compose_55
theorem DX8_compose_57 : cX8_compose.data.toList.drop 57 = TX8_compose_57 := dr1 DX8_compose_56
theorem DX8_compose_60 : cX8_compose.data.toList.drop 60 = TX8_compose_60 := dr3 DX8_compose_57
theorem DX8_compose_61 : cX8_compose.data.toList.drop 61 = TX8_compose_61 := dr1 DX8_compose_60
theorem DX8_compose_62 : cX8_compose.data.toList.drop 62 = TX8_compose_62 := dr1 DX8_compose_61
theorem DX8_compose_63 : cX8_compose.data.toList.drop 63 = TX8_compose_63 := dr1 DX8_compose_62
theorem DX8_compose_66 : cX8_compose.data.toList.drop 66 = TX8_compose_66 := dr3 DX8_compose_63
theorem DX8_compose_67 : cX8_compose.data.toList.drop 67 = TX8_compose_67 := dr1 DX8_compose_66
theorem DX8_compose_68 : cX8_compose.data.toList.drop 68 = TX8_compose_68 := dr1 DX8_compose_67
theorem DX8_compose_69 : cX8_compose.data.toList.drop 69 = TX8_compose_69 := dr1 DX8_compose_68
theorem DX8_compose_72 : cX8_compose.data.toList.drop 72 = TX8_compose_72 := dr3 DX8_compose_69
theorem DX8_compose_73 : cX8_compose.data.toList.drop 73 = TX8_compose_73 := dr1 DX8_compose_72
theorem DX8_compose_74 : cX8_compose.data.toList.drop 74 = TX8_compose_74 := dr1 DX8_compose_73
theorem DX8_compose_75 : cX8_compose.data.toList.drop 75 = TX8_compose_75 := dr1 DX8_compose_74
theorem DX8_compose_78 : cX8_compose.data.toList.drop 78 = TX8_compose_78 := dr3 DX8_compose_75
theorem DX8_compose_79 : cX8_compose.data.toList.drop 79 = TX8_compose_79 := dr1 DX8_compose_78
theorem DX8_compose_80 : cX8_compose.data.toList.drop 80 = TX8_compose_80 := dr1 DX8_compose_79
theorem DX8_compose_81 : cX8_compose.data.toList.drop 81 = TX8_compose_81 := dr1 DX8_compose_80
theorem DX8_compose_84 : cX8_compose.data.toList.drop 84 = TX8_compose_84 := dr3 DX8_compose_81
theorem DX8_compose_85 : cX8_compose.data.toList.drop 85 = TX8_compose_85 := dr1 DX8_compose_84
theorem DX8_compose_86 : cX8_compose.data.toList.drop 86 = TX8_compose_86 := dr1 DX8_compose_85
theorem DX8_compose_89 : cX8_compose.data.toList.drop 89 = TX8_compose_89 := dr3 DX8_compose_86
theorem DX8_compose_91 : cX8_compose.data.toList.drop 91 = TX8_compose_91 := dr2 DX8_compose_89
theorem DX8_compose_93 : cX8_compose.data.toList.drop 93 = TX8_compose_93 := dr2 DX8_compose_91
theorem DX8_compose_94 : cX8_compose.data.toList.drop 94 = TX8_compose_94 := dr1 DX8_compose_93
theorem DX8_compose_95 : cX8_compose.data.toList.drop 95 = TX8_compose_95 := dr1 DX8_compose_94
theorem DX8_compose_98 : cX8_compose.data.toList.drop 98 = TX8_compose_98 := dr3 DX8_compose_95
theorem DX8_compose_101 : cX8_compose.data.toList.drop 101 = TX8_compose_101 := dr3 DX8_compose_98
theorem DX8_compose_103 : cX8_compose.data.toList.drop 103 = TX8_compose_103 := dr2 DX8_compose_101
theorem DX8_compose_104 : cX8_compose.data.toList.drop 104 = TX8_compose_104 := dr1 DX8_compose_103
theorem DX8_compose_105 : cX8_compose.data.toList.drop 105 = TX8_compose_105 := dr1 DX8_compose_104
theorem DX8_compose_108 : cX8_compose.data.toList.drop 108 = TX8_compose_108 := dr3 DX8_compose_105
theorem DX8_compose_111 : cX8_compose.data.toList.drop 111 = TX8_compose_111 := dr3 DX8_compose_108
theorem DX8_compose_112 : cX8_compose.data.toList.drop 112 = TX8_compose_112 := dr1 DX8_compose_111
theorem DX8_compose_115 : cX8_compose.data.toList.drop 115 = TX8_compose_115 := dr3 DX8_compose_112
theorem DX8_compose_118 : cX8_compose.data.toList.drop 118 = TX8_compose_118 := dr3 DX8_compose_115
theorem DX8_compose_119 : cX8_compose.data.toList.drop 119 = TX8_compose_119 := dr1 DX8_compose_118
theorem DX8_compose_120 : cX8_compose.data.toList.drop 120 = TX8_compose_120 := dr1 DX8_compose_119
theorem DX8_compose_121 : cX8_compose.data.toList.drop 121 = TX8_compose_121 := dr1 DX8_compose_120
theorem DX8_compose_124 : cX8_compose.data.toList.drop 124 = TX8_compose_124 := dr3 DX8_compose_121
theorem DX8_compose_125 : cX8_compose.data.toList.drop 125 = TX8_compose_125 := dr1 DX8_compose_124
theorem DX8_compose_126 : cX8_compose.data.toList.drop 126 = TX8_compose_126 := dr1 DX8_compose_125
theorem DX8_compose_128 : cX8_compose.data.toList.drop 128 = TX8_compose_128 := dr2 DX8_compose_126
theorem DX8_compose_129 : cX8_compose.data.toList.drop 129 = TX8_compose_129 := dr1 DX8_compose_128
theorem DX8_compose_130 : cX8_compose.data.toList.drop 130 = TX8_compose_130 := dr1 DX8_compose_129
theorem DX8_compose_132 : cX8_compose.data.toList.drop 132 = TX8_compose_132 := dr2 DX8_compose_130
theorem DX8_compose_133 : cX8_compose.data.toList.drop 133 = TX8_compose_133 := dr1 DX8_compose_132
theorem DX8_compose_134 : cX8_compose.data.toList.drop 134 = TX8_compose_134 := dr1 DX8_compose_133
theorem DX8_compose_137 : cX8_compose.data.toList.drop 137 = TX8_compose_137 := dr3 DX8_compose_134
theorem dX8_compose_0 : decode cX8_compose 0 = .ok (.aload_n 0, 1) := do_2a DX8_compose_0
theorem dX8_compose_1 : decode cX8_compose 1 = .ok (.iload_n 1, 1) := do_1b DX8_compose_1
theorem dX8_compose_2 : decode cX8_compose 2 = .ok (.invokestatic 145, 3) := do_b8 DX8_compose_2
theorem dX8_compose_5 : decode cX8_compose 5 = .ok (.ifCond .ne 17, 3) := do_9a DX8_compose_5 (by decide +kernel)
theorem dX8_compose_8 : decode cX8_compose 8 = .ok (.iload_n 2, 1) := do_1c DX8_compose_8
theorem dX8_compose_9 : decode cX8_compose 9 = .ok (.invokestatic 145, 3) := do_b8 DX8_compose_9
theorem dX8_compose_12 : decode cX8_compose 12 = .ok (.ifCond .ne 10, 3) := do_9a DX8_compose_12 (by decide +kernel)
theorem dX8_compose_15 : decode cX8_compose 15 = .ok (.iload_n 3, 1) := do_1d DX8_compose_15
theorem dX8_compose_16 : decode cX8_compose 16 = .ok (.invokestatic 145, 3) := do_b8 DX8_compose_16
theorem dX8_compose_19 : decode cX8_compose 19 = .ok (.ifCond .eq 7, 3) := do_99 DX8_compose_19 (by decide +kernel)
theorem dX8_compose_22 : decode cX8_compose 22 = .ok (.iconst 1, 1) := do_04 DX8_compose_22
theorem dX8_compose_23 : decode cX8_compose 23 = .ok (.goto 4, 3) := do_a7 DX8_compose_23 (by decide +kernel)
theorem dX8_compose_26 : decode cX8_compose 26 = .ok (.iconst 0, 1) := do_03 DX8_compose_26
theorem dX8_compose_27 : decode cX8_compose 27 = .ok (.iconst 1, 1) := do_04 DX8_compose_27
theorem dX8_compose_28 : decode cX8_compose 28 = .ok (.invokevirtual 149, 3) := do_b6 DX8_compose_28
theorem dX8_compose_31 : decode cX8_compose 31 = .ok (.ifCond .eq 5, 3) := do_99 DX8_compose_31 (by decide +kernel)
theorem dX8_compose_34 : decode cX8_compose 34 = .ok (.iconst 0, 1) := do_03 DX8_compose_34
theorem dX8_compose_35 : decode cX8_compose 35 = .ok (.ireturn, 1) := do_ac DX8_compose_35
theorem dX8_compose_36 : decode cX8_compose 36 = .ok (.aload_n 0, 1) := do_2a DX8_compose_36
theorem dX8_compose_37 : decode cX8_compose 37 = .ok (.getfield 16, 3) := do_b4 DX8_compose_37
theorem dX8_compose_40 : decode cX8_compose 40 = .ok (.iload_n 1, 1) := do_1b DX8_compose_40
theorem dX8_compose_41 : decode cX8_compose 41 = .ok (.iaload, 1) := do_2e DX8_compose_41
theorem dX8_compose_42 : decode cX8_compose 42 = .ok (.aload_n 0, 1) := do_2a DX8_compose_42
theorem dX8_compose_43 : decode cX8_compose 43 = .ok (.getfield 16, 3) := do_b4 DX8_compose_43
theorem dX8_compose_46 : decode cX8_compose 46 = .ok (.iload_n 2, 1) := do_1c DX8_compose_46
theorem dX8_compose_47 : decode cX8_compose 47 = .ok (.iaload, 1) := do_2e DX8_compose_47
theorem dX8_compose_48 : decode cX8_compose 48 = .ok (.if_icmp .eq 8, 3) := do_9f DX8_compose_48 (by decide +kernel)
theorem dX8_compose_51 : decode cX8_compose 51 = .ok (.aload_n 0, 1) := do_2a DX8_compose_51
theorem dX8_compose_52 : decode cX8_compose 52 = .ok (.invokevirtual 158, 3) := do_b6 DX8_compose_52
theorem dX8_compose_55 : decode cX8_compose 55 = .ok (.ireturn, 1) := do_ac DX8_compose_55
theorem dX8_compose_56 : decode cX8_compose 56 = .ok (.aload_n 0, 1) := do_2a DX8_compose_56
theorem dX8_compose_57 : decode cX8_compose 57 = .ok (.getfield 16, 3) := do_b4 DX8_compose_57
theorem dX8_compose_60 : decode cX8_compose 60 = .ok (.iload_n 1, 1) := do_1b DX8_compose_60
theorem dX8_compose_61 : decode cX8_compose 61 = .ok (.iaload, 1) := do_2e DX8_compose_61
theorem dX8_compose_62 : decode cX8_compose 62 = .ok (.aload_n 0, 1) := do_2a DX8_compose_62
theorem dX8_compose_63 : decode cX8_compose 63 = .ok (.getfield 24, 3) := do_b4 DX8_compose_63
theorem dX8_compose_66 : decode cX8_compose 66 = .ok (.iload_n 1, 1) := do_1b DX8_compose_66
theorem dX8_compose_67 : decode cX8_compose 67 = .ok (.aaload, 1) := do_32 DX8_compose_67
theorem dX8_compose_68 : decode cX8_compose 68 = .ok (.aload_n 0, 1) := do_2a DX8_compose_68
theorem dX8_compose_69 : decode cX8_compose 69 = .ok (.getfield 28, 3) := do_b4 DX8_compose_69
theorem dX8_compose_72 : decode cX8_compose 72 = .ok (.iload_n 1, 1) := do_1b DX8_compose_72
theorem dX8_compose_73 : decode cX8_compose 73 = .ok (.aaload, 1) := do_32 DX8_compose_73
theorem dX8_compose_74 : decode cX8_compose 74 = .ok (.aload_n 0, 1) := do_2a DX8_compose_74
theorem dX8_compose_75 : decode cX8_compose 75 = .ok (.getfield 24, 3) := do_b4 DX8_compose_75
theorem dX8_compose_78 : decode cX8_compose 78 = .ok (.iload_n 2, 1) := do_1c DX8_compose_78
theorem dX8_compose_79 : decode cX8_compose 79 = .ok (.aaload, 1) := do_32 DX8_compose_79
theorem dX8_compose_80 : decode cX8_compose 80 = .ok (.aload_n 0, 1) := do_2a DX8_compose_80
theorem dX8_compose_81 : decode cX8_compose 81 = .ok (.getfield 28, 3) := do_b4 DX8_compose_81
theorem dX8_compose_84 : decode cX8_compose 84 = .ok (.iload_n 2, 1) := do_1c DX8_compose_84
theorem dX8_compose_85 : decode cX8_compose 85 = .ok (.aaload, 1) := do_32 DX8_compose_85
theorem dX8_compose_86 : decode cX8_compose 86 = .ok (.invokestatic 239, 3) := do_b8 DX8_compose_86
theorem dX8_compose_89 : decode cX8_compose 89 = .ok (.astore 4, 2) := do_3a DX8_compose_89
theorem dX8_compose_91 : decode cX8_compose 91 = .ok (.aload 4, 2) := do_19 DX8_compose_91
theorem dX8_compose_93 : decode cX8_compose 93 = .ok (.iconst 0, 1) := do_03 DX8_compose_93
theorem dX8_compose_94 : decode cX8_compose 94 = .ok (.aaload, 1) := do_32 DX8_compose_94
theorem dX8_compose_95 : decode cX8_compose 95 = .ok (.invokestatic 236, 3) := do_b8 DX8_compose_95
theorem dX8_compose_98 : decode cX8_compose 98 = .ok (.ifCond .ne 13, 3) := do_9a DX8_compose_98 (by decide +kernel)
theorem dX8_compose_101 : decode cX8_compose 101 = .ok (.aload 4, 2) := do_19 DX8_compose_101
theorem dX8_compose_103 : decode cX8_compose 103 = .ok (.iconst 1, 1) := do_04 DX8_compose_103
theorem dX8_compose_104 : decode cX8_compose 104 = .ok (.aaload, 1) := do_32 DX8_compose_104
theorem dX8_compose_105 : decode cX8_compose 105 = .ok (.invokestatic 236, 3) := do_b8 DX8_compose_105
theorem dX8_compose_108 : decode cX8_compose 108 = .ok (.ifCond .eq 10, 3) := do_99 DX8_compose_108 (by decide +kernel)
theorem dX8_compose_111 : decode cX8_compose 111 = .ok (.aload_n 0, 1) := do_2a DX8_compose_111
theorem dX8_compose_112 : decode cX8_compose 112 = .ok (.invokevirtual 158, 3) := do_b6 DX8_compose_112
theorem dX8_compose_115 : decode cX8_compose 115 = .ok (.goto 22, 3) := do_a7 DX8_compose_115 (by decide +kernel)
theorem dX8_compose_118 : decode cX8_compose 118 = .ok (.aload_n 0, 1) := do_2a DX8_compose_118
theorem dX8_compose_119 : decode cX8_compose 119 = .ok (.iload_n 3, 1) := do_1d DX8_compose_119
theorem dX8_compose_120 : decode cX8_compose 120 = .ok (.aload_n 0, 1) := do_2a DX8_compose_120
theorem dX8_compose_121 : decode cX8_compose 121 = .ok (.getfield 16, 3) := do_b4 DX8_compose_121
theorem dX8_compose_124 : decode cX8_compose 124 = .ok (.iload_n 1, 1) := do_1b DX8_compose_124
theorem dX8_compose_125 : decode cX8_compose 125 = .ok (.iaload, 1) := do_2e DX8_compose_125
theorem dX8_compose_126 : decode cX8_compose 126 = .ok (.aload 4, 2) := do_19 DX8_compose_126
theorem dX8_compose_128 : decode cX8_compose 128 = .ok (.iconst 0, 1) := do_03 DX8_compose_128
theorem dX8_compose_129 : decode cX8_compose 129 = .ok (.aaload, 1) := do_32 DX8_compose_129
theorem dX8_compose_130 : decode cX8_compose 130 = .ok (.aload 4, 2) := do_19 DX8_compose_130
theorem dX8_compose_132 : decode cX8_compose 132 = .ok (.iconst 1, 1) := do_04 DX8_compose_132
theorem dX8_compose_133 : decode cX8_compose 133 = .ok (.aaload, 1) := do_32 DX8_compose_133
theorem dX8_compose_134 : decode cX8_compose 134 = .ok (.invokevirtual 232, 3) := do_b6 DX8_compose_134
theorem dX8_compose_137 : decode cX8_compose 137 = .ok (.ireturn, 1) := do_ac DX8_compose_137
def TX8_power_141 : List UInt8 := []
def TX8_power_140 : List UInt8 := 172 :: TX8_power_141
def TX8_power_137 : List UInt8 := 182 :: 0 :: 232 :: TX8_power_140
def TX8_power_136 : List UInt8 := 50 :: TX8_power_137
def TX8_power_135 : List UInt8 := 4 :: TX8_power_136
def TX8_power_134 : List UInt8 := 45 :: TX8_power_135
def TX8_power_133 : List UInt8 := 50 :: TX8_power_134
def TX8_power_132 : List UInt8 := 3 :: TX8_power_133
def TX8_power_131 : List UInt8 := 45 :: TX8_power_132
def TX8_power_130 : List UInt8 := 46 :: TX8_power_131
def TX8_power_129 : List UInt8 := 27 :: TX8_power_130
def TX8_power_126 : List UInt8 := 180 :: 0 :: 16 :: TX8_power_129
def TX8_power_125 : List UInt8 := 42 :: TX8_power_126
def TX8_power_124 : List UInt8 := 27 :: TX8_power_125
def TX8_power_123 : List UInt8 := 42 :: TX8_power_124
def TX8_power_120 : List UInt8 := 167 :: 0 :: 20 :: TX8_power_123
def TX8_power_117 : List UInt8 := 182 :: 0 :: 158 :: TX8_power_120
def TX8_power_116 : List UInt8 := 42 :: TX8_power_117
def TX8_power_113 : List UInt8 := 153 :: 0 :: 10 :: TX8_power_116
def TX8_power_110 : List UInt8 := 184 :: 0 :: 236 :: TX8_power_113
def TX8_power_109 : List UInt8 := 50 :: TX8_power_110
def TX8_power_108 : List UInt8 := 4 :: TX8_power_109
def TX8_power_107 : List UInt8 := 45 :: TX8_power_108
def TX8_power_104 : List UInt8 := 154 :: 0 :: 12 :: TX8_power_107
def TX8_power_101 : List UInt8 := 184 :: 0 :: 236 :: TX8_power_104
def TX8_power_100 : List UInt8 := 50 :: TX8_power_101
def TX8_power_99 : List UInt8 := 3 :: TX8_power_100
def TX8_power_98 : List UInt8 := 45 :: TX8_power_99
def TX8_power_95 : List UInt8 := 167 :: 255 :: 219 :: TX8_power_98
def TX8_power_92 : List UInt8 := 132 :: 4 :: 1 :: TX8_power_95
def TX8_power_91 : List UInt8 := 78 :: TX8_power_92
def TX8_power_88 : List UInt8 := 184 :: 0 :: 239 :: TX8_power_91
def TX8_power_87 : List UInt8 := 50 :: TX8_power_88
def TX8_power_86 : List UInt8 := 27 :: TX8_power_87
def TX8_power_83 : List UInt8 := 180 :: 0 :: 28 :: TX8_power_86
def TX8_power_82 : List UInt8 := 42 :: TX8_power_83
def TX8_power_81 : List UInt8 := 50 :: TX8_power_82
def TX8_power_80 : List UInt8 := 27 :: TX8_power_81
def TX8_power_77 : List UInt8 := 180 :: 0 :: 24 :: TX8_power_80
def TX8_power_76 : List UInt8 := 42 :: TX8_power_77
def TX8_power_75 : List UInt8 := 50 :: TX8_power_76
def TX8_power_74 : List UInt8 := 4 :: TX8_power_75
def TX8_power_73 : List UInt8 := 45 :: TX8_power_74
def TX8_power_72 : List UInt8 := 50 :: TX8_power_73
def TX8_power_71 : List UInt8 := 3 :: TX8_power_72
def TX8_power_70 : List UInt8 := 45 :: TX8_power_71
def TX8_power_69 : List UInt8 := 46 :: TX8_power_70
def TX8_power_68 : List UInt8 := 27 :: TX8_power_69
def TX8_power_65 : List UInt8 := 180 :: 0 :: 16 :: TX8_power_68
def TX8_power_64 : List UInt8 := 42 :: TX8_power_65
def TX8_power_61 : List UInt8 := 162 :: 0 :: 37 :: TX8_power_64
def TX8_power_60 : List UInt8 := 28 :: TX8_power_61
def TX8_power_58 : List UInt8 := 21 :: 4 :: TX8_power_60
def TX8_power_56 : List UInt8 := 54 :: 4 :: TX8_power_58
def TX8_power_55 : List UInt8 := 3 :: TX8_power_56
def TX8_power_54 : List UInt8 := 78 :: TX8_power_55
def TX8_power_53 : List UInt8 := 83 :: TX8_power_54
def TX8_power_50 : List UInt8 := 184 :: 0 :: 20 :: TX8_power_53
def TX8_power_49 : List UInt8 := 9 :: TX8_power_50
def TX8_power_48 : List UInt8 := 4 :: TX8_power_49
def TX8_power_47 : List UInt8 := 89 :: TX8_power_48
def TX8_power_46 : List UInt8 := 83 :: TX8_power_47
def TX8_power_43 : List UInt8 := 184 :: 0 :: 20 :: TX8_power_46
def TX8_power_42 : List UInt8 := 10 :: TX8_power_43
def TX8_power_41 : List UInt8 := 3 :: TX8_power_42
def TX8_power_40 : List UInt8 := 89 :: TX8_power_41
def TX8_power_37 : List UInt8 := 189 :: 0 :: 19 :: TX8_power_40
def TX8_power_36 : List UInt8 := 5 :: TX8_power_37
def TX8_power_35 : List UInt8 := 172 :: TX8_power_36
def TX8_power_34 : List UInt8 := 3 :: TX8_power_35
def TX8_power_31 : List UInt8 := 153 :: 0 :: 5 :: TX8_power_34
def TX8_power_28 : List UInt8 := 182 :: 0 :: 45 :: TX8_power_31
def TX8_power_27 : List UInt8 := 5 :: TX8_power_28
def TX8_power_26 : List UInt8 := 3 :: TX8_power_27
def TX8_power_23 : List UInt8 := 167 :: 0 :: 4 :: TX8_power_26
def TX8_power_22 : List UInt8 := 4 :: TX8_power_23
def TX8_power_19 : List UInt8 := 154 :: 0 :: 7 :: TX8_power_22
def TX8_power_16 : List UInt8 := 184 :: 0 :: 49 :: TX8_power_19
def TX8_power_15 : List UInt8 := 8 :: TX8_power_16
def TX8_power_14 : List UInt8 := 3 :: TX8_power_15
def TX8_power_13 : List UInt8 := 28 :: TX8_power_14
def TX8_power_12 : List UInt8 := 42 :: TX8_power_13
def TX8_power_9 : List UInt8 := 154 :: 0 :: 25 :: TX8_power_12
def TX8_power_6 : List UInt8 := 182 :: 0 :: 149 :: TX8_power_9
def TX8_power_5 : List UInt8 := 4 :: TX8_power_6
def TX8_power_2 : List UInt8 := 184 :: 0 :: 145 :: TX8_power_5
def TX8_power_1 : List UInt8 := 27 :: TX8_power_2
def TX8_power_0 : List UInt8 := 42 :: TX8_power_1
theorem DX8_power_0 : cX8_power.data.toList.drop 0 = TX8_power_0 := by decide +kernel
theorem DX8_power_1 : cX8_power.data.toList.drop 1 = TX8_power_1 := dr1 DX8_power_0
theorem DX8_power_2 : cX8_power.data.toList.drop 2 = TX8_power_2 := dr1 DX8_power_1
theorem DX8_power_5 : cX8_power.data.toList.drop 5 = TX8_power_5 := dr3 DX8_power_2
theorem DX8_power_6 : cX8_power.data.toList.drop 6 = TX8_power_6 := dr1 DX8_power_5
theorem DX8_power_9 : cX8_power.data.toList.drop 9 = TX8_power_9 := dr3 DX8_power_6
theorem DX8_power_12 : cX8_power.data.toList.drop 12 = TX8_power_12 := dr3 DX8_power_9
theorem DX8_power_13 : cX8_power.data.toList.drop 13 = TX8_power_13 := dr1 DX8_power_12
theorem DX8_power_14 : cX8_power.data.toList.drop 14 = TX8_power_14 := dr1 DX8_power_13
theorem DX8_power_15 : cX8_power.data.toList.drop 15 = TX8_power_15 := dr1 DX8_power_14
theorem DX8_power_16 : cX8_power.data.toList.drop 16 = TX8_power_16 := dr1 DX8_power_15
theorem DX8_power_19 : cX8_power.data.toList.drop 19 = TX8_power_19 := dr3 DX8_power_16
theorem DX8_power_22 : cX8_power.data.toList.drop 22 = TX8_power_22 := dr3 DX8_power_19
theorem DX8_power_23 : cX8_power.data.toList.drop 23 = TX8_power_23 := dr1 DX8_power_22
theorem DX8_power_26 : cX8_power.data.toList.drop 26 = TX8_power_26 := dr3 DX8_power_23
theorem DX8_power_27 : cX8_power.data.toList.drop 27 = TX8_power_27 := dr1 DX8_power_26
theorem DX8_power_28 : cX8_power.data.toList.drop 28 = TX8_power_28 := dr1 DX8_power_27
theorem DX8_power_31 : cX8_power.data.toList.drop 31 = TX8_power_31 := dr3 DX8_power_28
theorem DX8_power_34 : cX8_power.data.toList.drop 34 = TX8_power_34 := dr3 DX8_power_31
theorem DX8_power_35 : cX8_power.data.toList.drop 35 = TX8_power_35 := dr1 DX8_power_34
theorem DX8_power_36 : cX8_power.data.toList.drop 36 = TX8_power_36 := dr1 DX8_power_35
theorem DX8_power_37 : cX8_power.data.toList.drop 37 = TX8_power_37 := dr1 DX8_power_36
theorem DX8_power_40 : cX8_power.data.toList.drop 40 = TX8_power_40 := dr3 DX8_power_37
theorem DX8_power_41 : cX8_power.data.toList.drop 41 = TX8_power_41 := dr1 DX8_power_40
theorem DX8_power_42 : cX8_power.data.toList.drop 42 = TX8_power_42 := dr1 DX8_power_41
theorem DX8_power_43 : cX8_power.data.toList.drop 43 = TX8_power_43 := dr1 DX8_power_42
theorem DX8_power_46 : cX8_power.data.toList.drop 46 = TX8_power_46 := dr3 DX8_power_43
theorem DX8_power_47 : cX8_power.data.toList.drop 47 = TX8_power_47 := dr1 DX8_power_46
theorem DX8_power_48 : cX8_power.data.toList.drop 48 = TX8_power_48 := dr1 DX8_power_47
theorem DX8_power_49 : cX8_power.data.toList.drop 49 = TX8_power_49 := dr1 DX8_power_48
theorem DX8_power_50 : cX8_power.data.toList.drop 50 = TX8_power_50 := dr1 DX8_power_49
theorem DX8_power_53 : cX8_power.data.toList.drop 53 = TX8_power_53 := dr3 DX8_power_50
theorem DX8_power_54 : cX8_power.data.toList.drop 54 = TX8_power_54 := dr1 DX8_power_53
theorem DX8_power_55 : cX8_power.data.toList.drop 55 = TX8_power_55 := dr1 DX8_power_54
theorem DX8_power_56 : cX8_power.data.toList.drop 56 = TX8_power_56 := dr1 DX8_power_55
theorem DX8_power_58 : cX8_power.data.toList.drop 58 = TX8_power_58 := dr2 DX8_power_56
theorem DX8_power_60 : cX8_power.data.toList.drop 60 = TX8_power_60 := dr2 DX8_power_58
theorem DX8_power_61 : cX8_power.data.toList.drop 61 = TX8_power_61 := dr1 DX8_power_60
theorem DX8_power_64 : cX8_power.data.toList.drop 64 = TX8_power_64 := dr3 DX8_power_61
theorem DX8_power_65 : cX8_power.data.toList.drop 65 = TX8_power_65 := dr1 DX8_power_64
theorem DX8_power_68 : cX8_power.data.toList.drop 68 = TX8_power_68 := dr3 DX8_power_65
theorem DX8_power_69 : cX8_power.data.toList.drop 69 = TX8_power_69 := dr1 DX8_power_68
theorem DX8_power_70 : cX8_power.data.toList.drop 70 = TX8_power_70 := dr1 DX8_power_69
theorem DX8_power_71 : cX8_power.data.toList.drop 71 = TX8_power_71 := dr1 DX8_power_70
theorem DX8_power_72 : cX8_power.data.toList.drop 72 = TX8_power_72 := dr1 DX8_power_71
theorem DX8_power_73 : cX8_power.data.toList.drop 73 = TX8_power_73 := dr1 DX8_power_72
theorem DX8_power_74 : cX8_power.data.toList.drop 74 = TX8_power_74 := dr1 DX8_power_73
theorem DX8_power_75 : cX8_power.data.toList.drop 75 = TX8_power_75 := dr1 DX8_power_74
theorem DX8_power_76 : cX8_power.data.toList.drop 76 = TX8_power_76 := dr1 DX8_power_75
theorem DX8_power_77 : cX8_power.data.toList.drop 77 = TX8_power_77 := dr1 DX8_power_76
theorem DX8_power_80 : cX8_power.data.toList.drop 80 = TX8_power_80 := dr3 DX8_power_77
theorem DX8_power_81 : cX8_power.data.toList.drop 81 = TX8_power_81 := dr1 DX8_power_80
theorem DX8_power_82 : cX8_power.data.toList.drop 82 = TX8_power_82 := dr1 DX8_power_81
theorem DX8_power_83 : cX8_power.data.toList.drop 83 = TX8_power_83 := dr1 DX8_power_82
theorem DX8_power_86 : cX8_power.data.toList.drop 86 = TX8_power_86 := dr3 DX8_power_83
theorem DX8_power_87 : cX8_power.data.toList.drop 87 = TX8_power_87 := dr1 DX8_power_86
theorem DX8_power_88 : cX8_power.data.toList.drop 88 = TX8_power_88 := dr1 DX8_power_87
theorem DX8_power_91 : cX8_power.data.toList.drop 91 = TX8_power_91 := dr3 DX8_power_88
theorem DX8_power_92 : cX8_power.data.toList.drop 92 = TX8_power_92 := dr1 DX8_power_91
theorem DX8_power_95 : cX8_power.data.toList.drop 95 = TX8_power_95 := dr3 DX8_power_92
theorem DX8_power_98 : cX8_power.data.toList.drop 98 = TX8_power_98 := dr3 DX8_power_95
theorem DX8_power_99 : cX8_power.data.toList.drop 99 = TX8_power_99 := dr1 DX8_power_98
theorem DX8_power_100 : cX8_power.data.toList.drop 100 = TX8_power_100 := dr1 DX8_power_99
theorem DX8_power_101 : cX8_power.data.toList.drop 101 = TX8_power_101 := dr1 DX8_power_100
theorem DX8_power_104 : cX8_power.data.toList.drop 104 = TX8_power_104 := dr3 DX8_power_101
theorem DX8_power_107 : cX8_power.data.toList.drop 107 = TX8_power_107 := dr3 DX8_power_104
theorem DX8_power_108 : cX8_power.data.toList.drop 108 = TX8_power_108 := dr1 DX8_power_107
theorem DX8_power_109 : cX8_power.data.toList.drop 109 = TX8_power_109 := dr1 DX8_power_108
theorem DX8_power_110 : cX8_power.data.toList.drop 110 = TX8_power_110 := dr1 DX8_power_109
theorem DX8_power_113 : cX8_power.data.toList.drop 113 = TX8_power_113 := dr3 DX8_power_110
theorem DX8_power_116 : cX8_power.data.toList.drop 116 = TX8_power_116 := dr3 DX8_power_113
theorem DX8_power_117 : cX8_power.data.toList.drop 117 = TX8_power_117 := dr1 DX8_power_116
theorem DX8_power_120 : cX8_power.data.toList.drop 120 = TX8_power_120 := dr3 DX8_power_117
theorem DX8_power_123 : cX8_power.data.toList.drop 123 = TX8_power_123 := dr3 DX8_power_120
theorem DX8_power_124 : cX8_power.data.toList.drop 124 = TX8_power_124 := dr1 DX8_power_123
theorem DX8_power_125 : cX8_power.data.toList.drop 125 = TX8_power_125 := dr1 DX8_power_124
theorem DX8_power_126 : cX8_power.data.toList.drop 126 = TX8_power_126 := dr1 DX8_power_125
theorem DX8_power_129 : cX8_power.data.toList.drop 129 = TX8_power_129 := dr3 DX8_power_126
theorem DX8_power_130 : cX8_power.data.toList.drop 130 = TX8_power_130 := dr1 DX8_power_129
theorem DX8_power_131 : cX8_power.data.toList.drop 131 = TX8_power_131 := dr1 DX8_power_130
theorem DX8_power_132 : cX8_power.data.toList.drop 132 = TX8_power_132 := dr1 DX8_power_131
theorem DX8_power_133 : cX8_power.data.toList.drop 133 = TX8_power_133 := dr1 DX8_power_132
theorem DX8_power_134 : cX8_power.data.toList.drop 134 = TX8_power_134 := dr1 DX8_power_133
theorem DX8_power_135 : cX8_power.data.toList.drop 135 = TX8_power_135 := dr1 DX8_power_134
theorem DX8_power_136 : cX8_power.data.toList.drop 136 = TX8_power_136 := dr1 DX8_power_135
theorem DX8_power_137 : cX8_power.data.toList.drop 137 = TX8_power_137 := dr1 DX8_power_136
theorem DX8_power_140 : cX8_power.data.toList.drop 140 = TX8_power_140 := dr3 DX8_power_137
theorem dX8_power_0 : decode cX8_power 0 = .ok (.aload_n 0, 1) := do_2a DX8_power_0
theorem dX8_power_1 : decode cX8_power 1 = .ok (.iload_n 1, 1) := do_1b DX8_power_1
theorem dX8_power_2 : decode cX8_power 2 = .ok (.invokestatic 145, 3) := do_b8 DX8_power_2
theorem dX8_power_5 : decode cX8_power 5 = .ok (.iconst 1, 1) := do_04 DX8_power_5
theorem dX8_power_6 : decode cX8_power 6 = .ok (.invokevirtual 149, 3) := do_b6 DX8_power_6
theorem dX8_power_9 : decode cX8_power 9 = .ok (.ifCond .ne 25, 3) := do_9a DX8_power_9 (by decide +kernel)
theorem dX8_power_12 : decode cX8_power 12 = .ok (.aload_n 0, 1) := do_2a DX8_power_12
theorem dX8_power_13 : decode cX8_power 13 = .ok (.iload_n 2, 1) := do_1c DX8_power_13
theorem dX8_power_14 : decode cX8_power 14 = .ok (.iconst 0, 1) := do_03 DX8_power_14
theorem dX8_power_15 : decode cX8_power 15 = .ok (.iconst 5, 1) := do_08 DX8_power_15
theorem dX8_power_16 : decode cX8_power 16 = .ok (.invokestatic 49, 3) := do_b8 DX8_power_16
theorem dX8_power_19 : decode cX8_power 19 = .ok (.ifCond .ne 7, 3) := do_9a DX8_power_19 (by decide +kernel)
theorem dX8_power_22 : decode cX8_power 22 = .ok (.iconst 1, 1) := do_04 DX8_power_22
theorem dX8_power_23 : decode cX8_power 23 = .ok (.goto 4, 3) := do_a7 DX8_power_23 (by decide +kernel)
theorem dX8_power_26 : decode cX8_power 26 = .ok (.iconst 0, 1) := do_03 DX8_power_26
theorem dX8_power_27 : decode cX8_power 27 = .ok (.iconst 2, 1) := do_05 DX8_power_27
theorem dX8_power_28 : decode cX8_power 28 = .ok (.invokevirtual 45, 3) := do_b6 DX8_power_28
theorem dX8_power_31 : decode cX8_power 31 = .ok (.ifCond .eq 5, 3) := do_99 DX8_power_31 (by decide +kernel)
theorem dX8_power_34 : decode cX8_power 34 = .ok (.iconst 0, 1) := do_03 DX8_power_34
theorem dX8_power_35 : decode cX8_power 35 = .ok (.ireturn, 1) := do_ac DX8_power_35
theorem dX8_power_36 : decode cX8_power 36 = .ok (.iconst 2, 1) := do_05 DX8_power_36
theorem dX8_power_37 : decode cX8_power 37 = .ok (.anewarray 19, 3) := by decide +kernel
theorem dX8_power_40 : decode cX8_power 40 = .ok (.dup, 1) := do_59 DX8_power_40
theorem dX8_power_41 : decode cX8_power 41 = .ok (.iconst 0, 1) := do_03 DX8_power_41
theorem dX8_power_42 : decode cX8_power 42 = .ok (.lconst 1, 1) := do_0a DX8_power_42
theorem dX8_power_43 : decode cX8_power 43 = .ok (.invokestatic 20, 3) := do_b8 DX8_power_43
theorem dX8_power_46 : decode cX8_power 46 = .ok (.aastore, 1) := do_53 DX8_power_46
theorem dX8_power_47 : decode cX8_power 47 = .ok (.dup, 1) := do_59 DX8_power_47
theorem dX8_power_48 : decode cX8_power 48 = .ok (.iconst 1, 1) := do_04 DX8_power_48
theorem dX8_power_49 : decode cX8_power 49 = .ok (.lconst 0, 1) := do_09 DX8_power_49
theorem dX8_power_50 : decode cX8_power 50 = .ok (.invokestatic 20, 3) := do_b8 DX8_power_50
theorem dX8_power_53 : decode cX8_power 53 = .ok (.aastore, 1) := do_53 DX8_power_53
theorem dX8_power_54 : decode cX8_power 54 = .ok (.astore_n 3, 1) := do_4e DX8_power_54
theorem dX8_power_55 : decode cX8_power 55 = .ok (.iconst 0, 1) := do_03 DX8_power_55
theorem dX8_power_56 : decode cX8_power 56 = .ok (.istore 4, 2) := do_36 DX8_power_56
theorem dX8_power_58 : decode cX8_power 58 = .ok (.iload 4, 2) := do_15 DX8_power_58
theorem dX8_power_60 : decode cX8_power 60 = .ok (.iload_n 2, 1) := do_1c DX8_power_60
theorem dX8_power_61 : decode cX8_power 61 = .ok (.if_icmp .ge 37, 3) := do_a2 DX8_power_61 (by decide +kernel)
theorem dX8_power_64 : decode cX8_power 64 = .ok (.aload_n 0, 1) := do_2a DX8_power_64
theorem dX8_power_65 : decode cX8_power 65 = .ok (.getfield 16, 3) := do_b4 DX8_power_65
theorem dX8_power_68 : decode cX8_power 68 = .ok (.iload_n 1, 1) := do_1b DX8_power_68
theorem dX8_power_69 : decode cX8_power 69 = .ok (.iaload, 1) := do_2e DX8_power_69
theorem dX8_power_70 : decode cX8_power 70 = .ok (.aload_n 3, 1) := do_2d DX8_power_70
theorem dX8_power_71 : decode cX8_power 71 = .ok (.iconst 0, 1) := do_03 DX8_power_71
theorem dX8_power_72 : decode cX8_power 72 = .ok (.aaload, 1) := do_32 DX8_power_72
theorem dX8_power_73 : decode cX8_power 73 = .ok (.aload_n 3, 1) := do_2d DX8_power_73
theorem dX8_power_74 : decode cX8_power 74 = .ok (.iconst 1, 1) := do_04 DX8_power_74
theorem dX8_power_75 : decode cX8_power 75 = .ok (.aaload, 1) := do_32 DX8_power_75
theorem dX8_power_76 : decode cX8_power 76 = .ok (.aload_n 0, 1) := do_2a DX8_power_76
theorem dX8_power_77 : decode cX8_power 77 = .ok (.getfield 24, 3) := do_b4 DX8_power_77
theorem dX8_power_80 : decode cX8_power 80 = .ok (.iload_n 1, 1) := do_1b DX8_power_80
theorem dX8_power_81 : decode cX8_power 81 = .ok (.aaload, 1) := do_32 DX8_power_81
theorem dX8_power_82 : decode cX8_power 82 = .ok (.aload_n 0, 1) := do_2a DX8_power_82
theorem dX8_power_83 : decode cX8_power 83 = .ok (.getfield 28, 3) := do_b4 DX8_power_83
theorem dX8_power_86 : decode cX8_power 86 = .ok (.iload_n 1, 1) := do_1b DX8_power_86
theorem dX8_power_87 : decode cX8_power 87 = .ok (.aaload, 1) := do_32 DX8_power_87
theorem dX8_power_88 : decode cX8_power 88 = .ok (.invokestatic 239, 3) := do_b8 DX8_power_88
theorem dX8_power_91 : decode cX8_power 91 = .ok (.astore_n 3, 1) := do_4e DX8_power_91
theorem dX8_power_92 : decode cX8_power 92 = .ok (.iinc 4 1, 3) := do_84 DX8_power_92
theorem dX8_power_95 : decode cX8_power 95 = .ok (.goto (-37), 3) := do_a7 DX8_power_95 (by decide +kernel)
theorem dX8_power_98 : decode cX8_power 98 = .ok (.aload_n 3, 1) := do_2d DX8_power_98
theorem dX8_power_99 : decode cX8_power 99 = .ok (.iconst 0, 1) := do_03 DX8_power_99
theorem dX8_power_100 : decode cX8_power 100 = .ok (.aaload, 1) := do_32 DX8_power_100
theorem dX8_power_101 : decode cX8_power 101 = .ok (.invokestatic 236, 3) := do_b8 DX8_power_101
theorem dX8_power_104 : decode cX8_power 104 = .ok (.ifCond .ne 12, 3) := do_9a DX8_power_104 (by decide +kernel)
theorem dX8_power_107 : decode cX8_power 107 = .ok (.aload_n 3, 1) := do_2d DX8_power_107
theorem dX8_power_108 : decode cX8_power 108 = .ok (.iconst 1, 1) := do_04 DX8_power_108
theorem dX8_power_109 : decode cX8_power 109 = .ok (.aaload, 1) := do_32 DX8_power_109
theorem dX8_power_110 : decode cX8_power 110 = .ok (.invokestatic 236, 3) := do_b8 DX8_power_110
theorem dX8_power_113 : decode cX8_power 113 = .ok (.ifCond .eq 10, 3) := do_99 DX8_power_113 (by decide +kernel)
theorem dX8_power_116 : decode cX8_power 116 = .ok (.aload_n 0, 1) := do_2a DX8_power_116
theorem dX8_power_117 : decode cX8_power 117 = .ok (.invokevirtual 158, 3) := do_b6 DX8_power_117
theorem dX8_power_120 : decode cX8_power 120 = .ok (.goto 20, 3) := do_a7 DX8_power_120 (by decide +kernel)
theorem dX8_power_123 : decode cX8_power 123 = .ok (.aload_n 0, 1) := do_2a DX8_power_123
theorem dX8_power_124 : decode cX8_power 124 = .ok (.iload_n 1, 1) := do_1b DX8_power_124
theorem dX8_power_125 : decode cX8_power 125 = .ok (.aload_n 0, 1) := do_2a DX8_power_125
theorem dX8_power_126 : decode cX8_power 126 = .ok (.getfield 16, 3) := do_b4 DX8_power_126
theorem dX8_power_129 : decode cX8_power 129 = .ok (.iload_n 1, 1) := do_1b DX8_power_129
theorem dX8_power_130 : decode cX8_power 130 = .ok (.iaload, 1) := do_2e DX8_power_130
theorem dX8_power_131 : decode cX8_power 131 = .ok (.aload_n 3, 1) := do_2d DX8_power_131
theorem dX8_power_132 : decode cX8_power 132 = .ok (.iconst 0, 1) := do_03 DX8_power_132
theorem dX8_power_133 : decode cX8_power 133 = .ok (.aaload, 1) := do_32 DX8_power_133
theorem dX8_power_134 : decode cX8_power 134 = .ok (.aload_n 3, 1) := do_2d DX8_power_134
theorem dX8_power_135 : decode cX8_power 135 = .ok (.iconst 1, 1) := do_04 DX8_power_135
theorem dX8_power_136 : decode cX8_power 136 = .ok (.aaload, 1) := do_32 DX8_power_136
theorem dX8_power_137 : decode cX8_power 137 = .ok (.invokevirtual 232, 3) := do_b6 DX8_power_137
theorem dX8_power_140 : decode cX8_power 140 = .ok (.ireturn, 1) := do_ac DX8_power_140
def TX8_mirror_67 : List UInt8 := []
def TX8_mirror_66 : List UInt8 := 172 :: TX8_mirror_67
def TX8_mirror_63 : List UInt8 := 182 :: 0 :: 232 :: TX8_mirror_66
def TX8_mirror_60 : List UInt8 := 184 :: 0 :: 77 :: TX8_mirror_63
def TX8_mirror_59 : List UInt8 := 116 :: TX8_mirror_60
def TX8_mirror_58 : List UInt8 := 46 :: TX8_mirror_59
def TX8_mirror_57 : List UInt8 := 3 :: TX8_mirror_58
def TX8_mirror_56 : List UInt8 := 50 :: TX8_mirror_57
def TX8_mirror_55 : List UInt8 := 27 :: TX8_mirror_56
def TX8_mirror_52 : List UInt8 := 180 :: 0 :: 28 :: TX8_mirror_55
def TX8_mirror_51 : List UInt8 := 42 :: TX8_mirror_52
def TX8_mirror_50 : List UInt8 := 50 :: TX8_mirror_51
def TX8_mirror_49 : List UInt8 := 27 :: TX8_mirror_50
def TX8_mirror_46 : List UInt8 := 180 :: 0 :: 28 :: TX8_mirror_49
def TX8_mirror_45 : List UInt8 := 42 :: TX8_mirror_46
def TX8_mirror_44 : List UInt8 := 45 :: TX8_mirror_45
def TX8_mirror_41 : List UInt8 := 167 :: 0 :: 4 :: TX8_mirror_44
def TX8_mirror_38 : List UInt8 := 184 :: 0 :: 77 :: TX8_mirror_41
def TX8_mirror_37 : List UInt8 := 116 :: TX8_mirror_38
def TX8_mirror_36 : List UInt8 := 46 :: TX8_mirror_37
def TX8_mirror_35 : List UInt8 := 3 :: TX8_mirror_36
def TX8_mirror_34 : List UInt8 := 45 :: TX8_mirror_35
def TX8_mirror_33 : List UInt8 := 45 :: TX8_mirror_34
def TX8_mirror_30 : List UInt8 := 153 :: 0 :: 14 :: TX8_mirror_33
def TX8_mirror_29 : List UInt8 := 28 :: TX8_mirror_30
def TX8_mirror_28 : List UInt8 := 46 :: TX8_mirror_29
def TX8_mirror_27 : List UInt8 := 27 :: TX8_mirror_28
def TX8_mirror_24 : List UInt8 := 180 :: 0 :: 16 :: TX8_mirror_27
def TX8_mirror_23 : List UInt8 := 42 :: TX8_mirror_24
def TX8_mirror_22 : List UInt8 := 27 :: TX8_mirror_23
def TX8_mirror_21 : List UInt8 := 42 :: TX8_mirror_22
def TX8_mirror_20 : List UInt8 := 78 :: TX8_mirror_21
def TX8_mirror_19 : List UInt8 := 50 :: TX8_mirror_20
def TX8_mirror_18 : List UInt8 := 27 :: TX8_mirror_19
def TX8_mirror_15 : List UInt8 := 180 :: 0 :: 24 :: TX8_mirror_18
def TX8_mirror_14 : List UInt8 := 42 :: TX8_mirror_15
def TX8_mirror_13 : List UInt8 := 172 :: TX8_mirror_14
def TX8_mirror_12 : List UInt8 := 3 :: TX8_mirror_13
def TX8_mirror_9 : List UInt8 := 153 :: 0 :: 5 :: TX8_mirror_12
def TX8_mirror_6 : List UInt8 := 182 :: 0 :: 149 :: TX8_mirror_9
def TX8_mirror_5 : List UInt8 := 4 :: TX8_mirror_6
def TX8_mirror_2 : List UInt8 := 184 :: 0 :: 145 :: TX8_mirror_5
def TX8_mirror_1 : List UInt8 := 27 :: TX8_mirror_2
def TX8_mirror_0 : List UInt8 := 42 :: TX8_mirror_1
theorem DX8_mirror_0 : cX8_mirror.data.toList.drop 0 = TX8_mirror_0 := by decide +kernel
theorem DX8_mirror_1 : cX8_mirror.data.toList.drop 1 = TX8_mirror_1 := dr1 DX8_mirror_0
theorem DX8_mirror_2 : cX8_mirror.data.toList.drop 2 = TX8_mirror_2 := dr1 DX8_mirror_1
theorem DX8_mirror_5 : cX8_mirror.data.toList.drop 5 = TX8_mirror_5 := dr3 DX8_mirror_2
theorem DX8_mirror_6 : cX8_mirror.data.toList.drop 6 = TX8_mirror_6 := dr1 DX8_mirror_5
theorem DX8_mirror_9 : cX8_mirror.data.toList.drop 9 = TX8_mirror_9 := dr3 DX8_mirror_6
theorem DX8_mirror_12 : cX8_mirror.data.toList.drop 12 = TX8_mirror_12 := dr3 DX8_mirror_9
theorem DX8_mirror_13 : cX8_mirror.data.toList.drop 13 = TX8_mirror_13 := dr1 DX8_mirror_12
theorem DX8_mirror_14 : cX8_mirror.data.toList.drop 14 = TX8_mirror_14 := dr1 DX8_mirror_13
theorem DX8_mirror_15 : cX8_mirror.data.toList.drop 15 = TX8_mirror_15 := dr1 DX8_mirror_14
theorem DX8_mirror_18 : cX8_mirror.data.toList.drop 18 = TX8_mirror_18 := dr3 DX8_mirror_15
theorem DX8_mirror_19 : cX8_mirror.data.toList.drop 19 = TX8_mirror_19 := dr1 DX8_mirror_18
theorem DX8_mirror_20 : cX8_mirror.data.toList.drop 20 = TX8_mirror_20 := dr1 DX8_mirror_19
theorem DX8_mirror_21 : cX8_mirror.data.toList.drop 21 = TX8_mirror_21 := dr1 DX8_mirror_20
theorem DX8_mirror_22 : cX8_mirror.data.toList.drop 22 = TX8_mirror_22 := dr1 DX8_mirror_21
theorem DX8_mirror_23 : cX8_mirror.data.toList.drop 23 = TX8_mirror_23 := dr1 DX8_mirror_22
theorem DX8_mirror_24 : cX8_mirror.data.toList.drop 24 = TX8_mirror_24 := dr1 DX8_mirror_23
theorem DX8_mirror_27 : cX8_mirror.data.toList.drop 27 = TX8_mirror_27 := dr3 DX8_mirror_24
theorem DX8_mirror_28 : cX8_mirror.data.toList.drop 28 = TX8_mirror_28 := dr1 DX8_mirror_27
theorem DX8_mirror_29 : cX8_mirror.data.toList.drop 29 = TX8_mirror_29 := dr1 DX8_mirror_28
theorem DX8_mirror_30 : cX8_mirror.data.toList.drop 30 = TX8_mirror_30 := dr1 DX8_mirror_29
theorem DX8_mirror_33 : cX8_mirror.data.toList.drop 33 = TX8_mirror_33 := dr3 DX8_mirror_30
theorem DX8_mirror_34 : cX8_mirror.data.toList.drop 34 = TX8_mirror_34 := dr1 DX8_mirror_33
theorem DX8_mirror_35 : cX8_mirror.data.toList.drop 35 = TX8_mirror_35 := dr1 DX8_mirror_34
theorem DX8_mirror_36 : cX8_mirror.data.toList.drop 36 = TX8_mirror_36 := dr1 DX8_mirror_35
theorem DX8_mirror_37 : cX8_mirror.data.toList.drop 37 = TX8_mirror_37 := dr1 DX8_mirror_36
theorem DX8_mirror_38 : cX8_mirror.data.toList.drop 38 = TX8_mirror_38 := dr1 DX8_mirror_37
theorem DX8_mirror_41 : cX8_mirror.data.toList.drop 41 = TX8_mirror_41 := dr3 DX8_mirror_38
theorem DX8_mirror_44 : cX8_mirror.data.toList.drop 44 = TX8_mirror_44 := dr3 DX8_mirror_41
theorem DX8_mirror_45 : cX8_mirror.data.toList.drop 45 = TX8_mirror_45 := dr1 DX8_mirror_44
theorem DX8_mirror_46 : cX8_mirror.data.toList.drop 46 = TX8_mirror_46 := dr1 DX8_mirror_45
theorem DX8_mirror_49 : cX8_mirror.data.toList.drop 49 = TX8_mirror_49 := dr3 DX8_mirror_46
theorem DX8_mirror_50 : cX8_mirror.data.toList.drop 50 = TX8_mirror_50 := dr1 DX8_mirror_49
theorem DX8_mirror_51 : cX8_mirror.data.toList.drop 51 = TX8_mirror_51 := dr1 DX8_mirror_50
theorem DX8_mirror_52 : cX8_mirror.data.toList.drop 52 = TX8_mirror_52 := dr1 DX8_mirror_51
theorem DX8_mirror_55 : cX8_mirror.data.toList.drop 55 = TX8_mirror_55 := dr3 DX8_mirror_52
theorem DX8_mirror_56 : cX8_mirror.data.toList.drop 56 = TX8_mirror_56 := dr1 DX8_mirror_55
theorem DX8_mirror_57 : cX8_mirror.data.toList.drop 57 = TX8_mirror_57 := dr1 DX8_mirror_56
theorem DX8_mirror_58 : cX8_mirror.data.toList.drop 58 = TX8_mirror_58 := dr1 DX8_mirror_57
theorem DX8_mirror_59 : cX8_mirror.data.toList.drop 59 = TX8_mirror_59 := dr1 DX8_mirror_58
theorem DX8_mirror_60 : cX8_mirror.data.toList.drop 60 = TX8_mirror_60 := dr1 DX8_mirror_59
theorem DX8_mirror_63 : cX8_mirror.data.toList.drop 63 = TX8_mirror_63 := dr3 DX8_mirror_60
theorem DX8_mirror_66 : cX8_mirror.data.toList.drop 66 = TX8_mirror_66 := dr3 DX8_mirror_63
theorem dX8_mirror_0 : decode cX8_mirror 0 = .ok (.aload_n 0, 1) := do_2a DX8_mirror_0
theorem dX8_mirror_1 : decode cX8_mirror 1 = .ok (.iload_n 1, 1) := do_1b DX8_mirror_1
theorem dX8_mirror_2 : decode cX8_mirror 2 = .ok (.invokestatic 145, 3) := do_b8 DX8_mirror_2
theorem dX8_mirror_5 : decode cX8_mirror 5 = .ok (.iconst 1, 1) := do_04 DX8_mirror_5
theorem dX8_mirror_6 : decode cX8_mirror 6 = .ok (.invokevirtual 149, 3) := do_b6 DX8_mirror_6
theorem dX8_mirror_9 : decode cX8_mirror 9 = .ok (.ifCond .eq 5, 3) := do_99 DX8_mirror_9 (by decide +kernel)
theorem dX8_mirror_12 : decode cX8_mirror 12 = .ok (.iconst 0, 1) := do_03 DX8_mirror_12
theorem dX8_mirror_13 : decode cX8_mirror 13 = .ok (.ireturn, 1) := do_ac DX8_mirror_13
theorem dX8_mirror_14 : decode cX8_mirror 14 = .ok (.aload_n 0, 1) := do_2a DX8_mirror_14
theorem dX8_mirror_15 : decode cX8_mirror 15 = .ok (.getfield 24, 3) := do_b4 DX8_mirror_15
theorem dX8_mirror_18 : decode cX8_mirror 18 = .ok (.iload_n 1, 1) := do_1b DX8_mirror_18
theorem dX8_mirror_19 : decode cX8_mirror 19 = .ok (.aaload, 1) := do_32 DX8_mirror_19
theorem dX8_mirror_20 : decode cX8_mirror 20 = .ok (.astore_n 3, 1) := do_4e DX8_mirror_20
theorem dX8_mirror_21 : decode cX8_mirror 21 = .ok (.aload_n 0, 1) := do_2a DX8_mirror_21
theorem dX8_mirror_22 : decode cX8_mirror 22 = .ok (.iload_n 1, 1) := do_1b DX8_mirror_22
theorem dX8_mirror_23 : decode cX8_mirror 23 = .ok (.aload_n 0, 1) := do_2a DX8_mirror_23
theorem dX8_mirror_24 : decode cX8_mirror 24 = .ok (.getfield 16, 3) := do_b4 DX8_mirror_24
theorem dX8_mirror_27 : decode cX8_mirror 27 = .ok (.iload_n 1, 1) := do_1b DX8_mirror_27
theorem dX8_mirror_28 : decode cX8_mirror 28 = .ok (.iaload, 1) := do_2e DX8_mirror_28
theorem dX8_mirror_29 : decode cX8_mirror 29 = .ok (.iload_n 2, 1) := do_1c DX8_mirror_29
theorem dX8_mirror_30 : decode cX8_mirror 30 = .ok (.ifCond .eq 14, 3) := do_99 DX8_mirror_30 (by decide +kernel)
theorem dX8_mirror_33 : decode cX8_mirror 33 = .ok (.aload_n 3, 1) := do_2d DX8_mirror_33
theorem dX8_mirror_34 : decode cX8_mirror 34 = .ok (.aload_n 3, 1) := do_2d DX8_mirror_34
theorem dX8_mirror_35 : decode cX8_mirror 35 = .ok (.iconst 0, 1) := do_03 DX8_mirror_35
theorem dX8_mirror_36 : decode cX8_mirror 36 = .ok (.iaload, 1) := do_2e DX8_mirror_36
theorem dX8_mirror_37 : decode cX8_mirror 37 = .ok (.ineg, 1) := do_74 DX8_mirror_37
theorem dX8_mirror_38 : decode cX8_mirror 38 = .ok (.invokestatic 77, 3) := do_b8 DX8_mirror_38
theorem dX8_mirror_41 : decode cX8_mirror 41 = .ok (.goto 4, 3) := do_a7 DX8_mirror_41 (by decide +kernel)
theorem dX8_mirror_44 : decode cX8_mirror 44 = .ok (.aload_n 3, 1) := do_2d DX8_mirror_44
theorem dX8_mirror_45 : decode cX8_mirror 45 = .ok (.aload_n 0, 1) := do_2a DX8_mirror_45
theorem dX8_mirror_46 : decode cX8_mirror 46 = .ok (.getfield 28, 3) := do_b4 DX8_mirror_46
theorem dX8_mirror_49 : decode cX8_mirror 49 = .ok (.iload_n 1, 1) := do_1b DX8_mirror_49
theorem dX8_mirror_50 : decode cX8_mirror 50 = .ok (.aaload, 1) := do_32 DX8_mirror_50
theorem dX8_mirror_51 : decode cX8_mirror 51 = .ok (.aload_n 0, 1) := do_2a DX8_mirror_51
theorem dX8_mirror_52 : decode cX8_mirror 52 = .ok (.getfield 28, 3) := do_b4 DX8_mirror_52
theorem dX8_mirror_55 : decode cX8_mirror 55 = .ok (.iload_n 1, 1) := do_1b DX8_mirror_55
theorem dX8_mirror_56 : decode cX8_mirror 56 = .ok (.aaload, 1) := do_32 DX8_mirror_56
theorem dX8_mirror_57 : decode cX8_mirror 57 = .ok (.iconst 0, 1) := do_03 DX8_mirror_57
theorem dX8_mirror_58 : decode cX8_mirror 58 = .ok (.iaload, 1) := do_2e DX8_mirror_58
theorem dX8_mirror_59 : decode cX8_mirror 59 = .ok (.ineg, 1) := do_74 DX8_mirror_59
theorem dX8_mirror_60 : decode cX8_mirror 60 = .ok (.invokestatic 77, 3) := do_b8 DX8_mirror_60
theorem dX8_mirror_63 : decode cX8_mirror 63 = .ok (.invokevirtual 232, 3) := do_b6 DX8_mirror_63
theorem dX8_mirror_66 : decode cX8_mirror 66 = .ok (.ireturn, 1) := do_ac DX8_mirror_66
def TX8_parted_42 : List UInt8 := []
def TX8_parted_41 : List UInt8 := 176 :: TX8_parted_42
def TX8_parted_38 : List UInt8 := 184 :: 0 :: 55 :: TX8_parted_41
def TX8_parted_37 : List UInt8 := 44 :: TX8_parted_38
def TX8_parted_36 : List UInt8 := 46 :: TX8_parted_37
def TX8_parted_35 : List UInt8 := 3 :: TX8_parted_36
def TX8_parted_34 : List UInt8 := 42 :: TX8_parted_35
def TX8_parted_31 : List UInt8 := 167 :: 0 :: 6 :: TX8_parted_34
def TX8_parted_30 : List UInt8 := 116 :: TX8_parted_31
def TX8_parted_29 : List UInt8 := 46 :: TX8_parted_30
def TX8_parted_28 : List UInt8 := 3 :: TX8_parted_29
def TX8_parted_27 : List UInt8 := 42 :: TX8_parted_28
def TX8_parted_24 : List UInt8 := 156 :: 0 :: 10 :: TX8_parted_27
def TX8_parted_23 : List UInt8 := 27 :: TX8_parted_24
def TX8_parted_20 : List UInt8 := 167 :: 0 :: 21 :: TX8_parted_23
def TX8_parted_19 : List UInt8 := 1 :: TX8_parted_20
def TX8_parted_16 : List UInt8 := 158 :: 0 :: 7 :: TX8_parted_19
def TX8_parted_13 : List UInt8 := 184 :: 0 :: 95 :: TX8_parted_16
def TX8_parted_10 : List UInt8 := 184 :: 0 :: 196 :: TX8_parted_13
def TX8_parted_9 : List UInt8 := 27 :: TX8_parted_10
def TX8_parted_8 : List UInt8 := 44 :: TX8_parted_9
def TX8_parted_7 : List UInt8 := 77 :: TX8_parted_8
def TX8_parted_4 : List UInt8 := 192 :: 0 :: 19 :: TX8_parted_7
def TX8_parted_1 : List UInt8 := 182 :: 0 :: 59 :: TX8_parted_4
def TX8_parted_0 : List UInt8 := 42 :: TX8_parted_1
theorem DX8_parted_0 : cX8_parted.data.toList.drop 0 = TX8_parted_0 := by decide +kernel
theorem DX8_parted_1 : cX8_parted.data.toList.drop 1 = TX8_parted_1 := dr1 DX8_parted_0
theorem DX8_parted_4 : cX8_parted.data.toList.drop 4 = TX8_parted_4 := dr3 DX8_parted_1
theorem DX8_parted_7 : cX8_parted.data.toList.drop 7 = TX8_parted_7 := dr3 DX8_parted_4
theorem DX8_parted_8 : cX8_parted.data.toList.drop 8 = TX8_parted_8 := dr1 DX8_parted_7
theorem DX8_parted_9 : cX8_parted.data.toList.drop 9 = TX8_parted_9 := dr1 DX8_parted_8
theorem DX8_parted_10 : cX8_parted.data.toList.drop 10 = TX8_parted_10 := dr1 DX8_parted_9
theorem DX8_parted_13 : cX8_parted.data.toList.drop 13 = TX8_parted_13 := dr3 DX8_parted_10
theorem DX8_parted_16 : cX8_parted.data.toList.drop 16 = TX8_parted_16 := dr3 DX8_parted_13
theorem DX8_parted_19 : cX8_parted.data.toList.drop 19 = TX8_parted_19 := dr3 DX8_parted_16
theorem DX8_parted_20 : cX8_parted.data.toList.drop 20 = TX8_parted_20 := dr1 DX8_parted_19
theorem DX8_parted_23 : cX8_parted.data.toList.drop 23 = TX8_parted_23 := dr3 DX8_parted_20
theorem DX8_parted_24 : cX8_parted.data.toList.drop 24 = TX8_parted_24 := dr1 DX8_parted_23
theorem DX8_parted_27 : cX8_parted.data.toList.drop 27 = TX8_parted_27 := dr3 DX8_parted_24
theorem DX8_parted_28 : cX8_parted.data.toList.drop 28 = TX8_parted_28 := dr1 DX8_parted_27
theorem DX8_parted_29 : cX8_parted.data.toList.drop 29 = TX8_parted_29 := dr1 DX8_parted_28
theorem DX8_parted_30 : cX8_parted.data.toList.drop 30 = TX8_parted_30 := dr1 DX8_parted_29
theorem DX8_parted_31 : cX8_parted.data.toList.drop 31 = TX8_parted_31 := dr1 DX8_parted_30
theorem DX8_parted_34 : cX8_parted.data.toList.drop 34 = TX8_parted_34 := dr3 DX8_parted_31
theorem DX8_parted_35 : cX8_parted.data.toList.drop 35 = TX8_parted_35 := dr1 DX8_parted_34
theorem DX8_parted_36 : cX8_parted.data.toList.drop 36 = TX8_parted_36 := dr1 DX8_parted_35
theorem DX8_parted_37 : cX8_parted.data.toList.drop 37 = TX8_parted_37 := dr1 DX8_parted_36
theorem DX8_parted_38 : cX8_parted.data.toList.drop 38 = TX8_parted_38 := dr1 DX8_parted_37
theorem DX8_parted_41 : cX8_parted.data.toList.drop 41 = TX8_parted_41 := dr3 DX8_parted_38
theorem dX8_parted_0 : decode cX8_parted 0 = .ok (.aload_n 0, 1) := do_2a DX8_parted_0
theorem dX8_parted_1 : decode cX8_parted 1 = .ok (.invokevirtual 59, 3) := do_b6 DX8_parted_1
theorem dX8_parted_4 : decode cX8_parted 4 = .ok (.checkcast 19, 3) := do_c0 DX8_parted_4
theorem dX8_parted_7 : decode cX8_parted 7 = .ok (.astore_n 2, 1) := do_4d DX8_parted_7
theorem dX8_parted_8 : decode cX8_parted 8 = .ok (.aload_n 2, 1) := do_2c DX8_parted_8
theorem dX8_parted_9 : decode cX8_parted 9 = .ok (.iload_n 1, 1) := do_1b DX8_parted_9
theorem dX8_parted_10 : decode cX8_parted 10 = .ok (.invokestatic 196, 3) := do_b8 DX8_parted_10
theorem dX8_parted_13 : decode cX8_parted 13 = .ok (.invokestatic 95, 3) := do_b8 DX8_parted_13
theorem dX8_parted_16 : decode cX8_parted 16 = .ok (.ifCond .le 7, 3) := do_9e DX8_parted_16 (by decide +kernel)
theorem dX8_parted_19 : decode cX8_parted 19 = .ok (.aconst_null, 1) := do_01 DX8_parted_19
theorem dX8_parted_20 : decode cX8_parted 20 = .ok (.goto 21, 3) := do_a7 DX8_parted_20 (by decide +kernel)
theorem dX8_parted_23 : decode cX8_parted 23 = .ok (.iload_n 1, 1) := do_1b DX8_parted_23
theorem dX8_parted_24 : decode cX8_parted 24 = .ok (.ifCond .ge 10, 3) := do_9c DX8_parted_24 (by decide +kernel)
theorem dX8_parted_27 : decode cX8_parted 27 = .ok (.aload_n 0, 1) := do_2a DX8_parted_27
theorem dX8_parted_28 : decode cX8_parted 28 = .ok (.iconst 0, 1) := do_03 DX8_parted_28
theorem dX8_parted_29 : decode cX8_parted 29 = .ok (.iaload, 1) := do_2e DX8_parted_29
theorem dX8_parted_30 : decode cX8_parted 30 = .ok (.ineg, 1) := do_74 DX8_parted_30
theorem dX8_parted_31 : decode cX8_parted 31 = .ok (.goto 6, 3) := do_a7 DX8_parted_31 (by decide +kernel)
theorem dX8_parted_34 : decode cX8_parted 34 = .ok (.aload_n 0, 1) := do_2a DX8_parted_34
theorem dX8_parted_35 : decode cX8_parted 35 = .ok (.iconst 0, 1) := do_03 DX8_parted_35
theorem dX8_parted_36 : decode cX8_parted 36 = .ok (.iaload, 1) := do_2e DX8_parted_36
theorem dX8_parted_37 : decode cX8_parted 37 = .ok (.aload_n 2, 1) := do_2c DX8_parted_37
theorem dX8_parted_38 : decode cX8_parted 38 = .ok (.invokestatic 55, 3) := do_b8 DX8_parted_38
theorem dX8_parted_41 : decode cX8_parted 41 = .ok (.areturn, 1) := do_b0 DX8_parted_41
def TX8_divideBy_108 : List UInt8 := []
def TX8_divideBy_107 : List UInt8 := 172 :: TX8_divideBy_108
def TX8_divideBy_104 : List UInt8 := 182 :: 0 :: 232 :: TX8_divideBy_107
def TX8_divideBy_102 : List UInt8 := 25 :: 4 :: TX8_divideBy_104
def TX8_divideBy_101 : List UInt8 := 45 :: TX8_divideBy_102
def TX8_divideBy_100 : List UInt8 := 46 :: TX8_divideBy_101
def TX8_divideBy_99 : List UInt8 := 27 :: TX8_divideBy_100
def TX8_divideBy_96 : List UInt8 := 180 :: 0 :: 16 :: TX8_divideBy_99
def TX8_divideBy_95 : List UInt8 := 42 :: TX8_divideBy_96
def TX8_divideBy_94 : List UInt8 := 27 :: TX8_divideBy_95
def TX8_divideBy_93 : List UInt8 := 42 :: TX8_divideBy_94
def TX8_divideBy_90 : List UInt8 := 167 :: 0 :: 17 :: TX8_divideBy_93
def TX8_divideBy_87 : List UInt8 := 182 :: 0 :: 158 :: TX8_divideBy_90
def TX8_divideBy_86 : List UInt8 := 42 :: TX8_divideBy_87
def TX8_divideBy_83 : List UInt8 := 199 :: 0 :: 10 :: TX8_divideBy_86
def TX8_divideBy_81 : List UInt8 := 25 :: 4 :: TX8_divideBy_83
def TX8_divideBy_78 : List UInt8 := 198 :: 0 :: 8 :: TX8_divideBy_81
def TX8_divideBy_77 : List UInt8 := 45 :: TX8_divideBy_78
def TX8_divideBy_75 : List UInt8 := 58 :: 4 :: TX8_divideBy_77
def TX8_divideBy_72 : List UInt8 := 184 :: 0 :: 243 :: TX8_divideBy_75
def TX8_divideBy_71 : List UInt8 := 28 :: TX8_divideBy_72
def TX8_divideBy_70 : List UInt8 := 50 :: TX8_divideBy_71
def TX8_divideBy_69 : List UInt8 := 27 :: TX8_divideBy_70
def TX8_divideBy_66 : List UInt8 := 180 :: 0 :: 28 :: TX8_divideBy_69
def TX8_divideBy_65 : List UInt8 := 42 :: TX8_divideBy_66
def TX8_divideBy_62 : List UInt8 := 167 :: 0 :: 13 :: TX8_divideBy_65
def TX8_divideBy_61 : List UInt8 := 1 :: TX8_divideBy_62
def TX8_divideBy_58 : List UInt8 := 154 :: 0 :: 7 :: TX8_divideBy_61
def TX8_divideBy_57 : List UInt8 := 28 :: TX8_divideBy_58
def TX8_divideBy_56 : List UInt8 := 78 :: TX8_divideBy_57
def TX8_divideBy_53 : List UInt8 := 184 :: 0 :: 243 :: TX8_divideBy_56
def TX8_divideBy_52 : List UInt8 := 28 :: TX8_divideBy_53
def TX8_divideBy_51 : List UInt8 := 50 :: TX8_divideBy_52
def TX8_divideBy_50 : List UInt8 := 27 :: TX8_divideBy_51
def TX8_divideBy_47 : List UInt8 := 180 :: 0 :: 24 :: TX8_divideBy_50
def TX8_divideBy_46 : List UInt8 := 42 :: TX8_divideBy_47
def TX8_divideBy_43 : List UInt8 := 167 :: 0 :: 13 :: TX8_divideBy_46
def TX8_divideBy_42 : List UInt8 := 1 :: TX8_divideBy_43
def TX8_divideBy_39 : List UInt8 := 154 :: 0 :: 7 :: TX8_divideBy_42
def TX8_divideBy_38 : List UInt8 := 28 :: TX8_divideBy_39
def TX8_divideBy_37 : List UInt8 := 172 :: TX8_divideBy_38
def TX8_divideBy_36 : List UInt8 := 3 :: TX8_divideBy_37
def TX8_divideBy_33 : List UInt8 := 153 :: 0 :: 5 :: TX8_divideBy_36
def TX8_divideBy_30 : List UInt8 := 182 :: 0 :: 45 :: TX8_divideBy_33
def TX8_divideBy_29 : List UInt8 := 5 :: TX8_divideBy_30
def TX8_divideBy_28 : List UInt8 := 3 :: TX8_divideBy_29
def TX8_divideBy_25 : List UInt8 := 167 :: 0 :: 4 :: TX8_divideBy_28
def TX8_divideBy_24 : List UInt8 := 4 :: TX8_divideBy_25
def TX8_divideBy_21 : List UInt8 := 154 :: 0 :: 7 :: TX8_divideBy_24
def TX8_divideBy_18 : List UInt8 := 184 :: 0 :: 49 :: TX8_divideBy_21
def TX8_divideBy_16 : List UInt8 := 16 :: 99 :: TX8_divideBy_18
def TX8_divideBy_14 : List UInt8 := 16 :: 157 :: TX8_divideBy_16
def TX8_divideBy_13 : List UInt8 := 28 :: TX8_divideBy_14
def TX8_divideBy_12 : List UInt8 := 42 :: TX8_divideBy_13
def TX8_divideBy_9 : List UInt8 := 154 :: 0 :: 27 :: TX8_divideBy_12
def TX8_divideBy_6 : List UInt8 := 182 :: 0 :: 149 :: TX8_divideBy_9
def TX8_divideBy_5 : List UInt8 := 4 :: TX8_divideBy_6
def TX8_divideBy_2 : List UInt8 := 184 :: 0 :: 145 :: TX8_divideBy_5
def TX8_divideBy_1 : List UInt8 := 27 :: TX8_divideBy_2
def TX8_divideBy_0 : List UInt8 := 42 :: TX8_divideBy_1
theorem DX8_divideBy_0 : cX8_divideBy.data.toList.drop 0 = TX8_divideBy_0 := by decide +kernel
theorem DX8_divideBy_1 : cX8_divideBy.data.toList.drop 1 = TX8_divideBy_1 := dr1 DX8_divideBy_0
theorem DX8_divideBy_2 : cX8_divideBy.data.toList.drop 2 = TX8_divideBy_2 := dr1 DX8_divideBy_1
theorem DX8_divideBy_5 : cX8_divideBy.data.toList.drop 5 = TX8_divideBy_5 := dr3 DX8_divideBy_2
theorem DX8_divideBy_6 : cX8_divideBy.data.toList.drop 6 = TX8_divideBy_6 := dr1 DX8_divideBy_5
theorem DX8_divideBy_9 : cX8_divideBy.data.toList.drop 9 = TX8_divideBy_9 := dr3 DX8_divideBy_6
theorem DX8_divideBy_12 : cX8_divideBy.data.toList.drop 12 = TX8_divideBy_12 := dr3 DX8_divideBy_9
theorem DX8_divideBy_13 : cX8_divideBy.data.toList.drop 13 = TX8_divideBy_13 := dr1 DX8_divideBy_12
theorem DX8_divideBy_14 : cX8_divideBy.data.toList.drop 14 = TX8_divideBy_14 := dr1 DX8_divideBy_13
theorem DX8_divideBy_16 : cX8_divideBy.data.toList.drop 16 = TX8_divideBy_16 := dr2 DX8_divideBy_14
theorem DX8_divideBy_18 : cX8_divideBy.data.toList.drop 18 = TX8_divideBy_18 := dr2 DX8_divideBy_16
theorem DX8_divideBy_21 : cX8_divideBy.data.toList.drop 21 = TX8_divideBy_21 := dr3 DX8_divideBy_18
theorem DX8_divideBy_24 : cX8_divideBy.data.toList.drop 24 = TX8_divideBy_24 := dr3 DX8_divideBy_21
theorem DX8_divideBy_25 : cX8_divideBy.data.toList.drop 25 = TX8_divideBy_25 := dr1 DX8_divideBy_24
theorem DX8_divideBy_28 : cX8_divideBy.data.toList.drop 28 = TX8_divideBy_28 := dr3 DX8_divideBy_25
theorem DX8_divideBy_29 : cX8_divideBy.data.toList.drop 29 = TX8_divideBy_29 := dr1 DX8_divideBy_28
theorem DX8_divideBy_30 : cX8_divideBy.data.toList.drop 30 = TX8_divideBy_30 := dr1 DX8_divideBy_29
theorem DX8_divideBy_33 : cX8_divideBy.data.toList.drop 33 = TX8_divideBy_33 := dr3 DX8_divideBy_30
theorem DX8_divideBy_36 : cX8_divideBy.data.toList.drop 36 = TX8_divideBy_36 := dr3 DX8_divideBy_33
theorem DX8_divideBy_37 : cX8_divideBy.data.toList.drop 37 = TX8_divideBy_37 := dr1 DX8_divideBy_36
theorem DX8_divideBy_38 : cX8_divideBy.data.toList.drop 38 = TX8_divideBy_38 := dr1 DX8_divideBy_37
theorem DX8_divideBy_39 : cX8_divideBy.data.toList.drop 39 = TX8_divideBy_39 := dr1 DX8_divideBy_38
theorem DX8_divideBy_42 : cX8_divideBy.data.toList.drop 42 = TX8_divideBy_42 := dr3 DX8_divideBy_39
theorem DX8_divideBy_43 : cX8_divideBy.data.toList.drop 43 = TX8_divideBy_43 := dr1 DX8_divideBy_42
theorem DX8_divideBy_46 : cX8_divideBy.data.toList.drop 46 = TX8_divideBy_46 := dr3 DX8_divideBy_43
theorem DX8_divideBy_47 : cX8_divideBy.data.toList.drop 47 = TX8_divideBy_47 := dr1 DX8_divideBy_46
theorem DX8_divideBy_50 : cX8_divideBy.data.toList.drop 50 = TX8_divideBy_50 := dr3 DX8_divideBy_47
theorem DX8_divideBy_51 : cX8_divideBy.data.toList.drop 51 = TX8_divideBy_51 := dr1 DX8_divideBy_50
theorem DX8_divideBy_52 : cX8_divideBy.data.toList.drop 52 = TX8_divideBy_52 := dr1 DX8_divideBy_51
theorem DX8_divideBy_53 : cX8_divideBy.data.toList.drop 53 = TX8_divideBy_53 := dr1 DX8_divideBy_52
theorem DX8_divideBy_56 : cX8_divideBy.data.toList.drop 56 = TX8_divideBy_56 := dr3 DX8_divideBy_53
theorem DX8_divideBy_57 : cX8_divideBy.data.toList.drop 57 = TX8_divideBy_57 := dr1 DX8_divideBy_56
theorem DX8_divideBy_58 : cX8_divideBy.data.toList.drop 58 = TX8_divideBy_58 := dr1 DX8_divideBy_57
theorem DX8_divideBy_61 : cX8_divideBy.data.toList.drop 61 = TX8_divideBy_61 := dr3 DX8_divideBy_58
theorem DX8_divideBy_62 : cX8_divideBy.data.toList.drop 62 = TX8_divideBy_62 := dr1 DX8_divideBy_61
theorem DX8_divideBy_65 : cX8_divideBy.data.toList.drop 65 = TX8_divideBy_65 := dr3 DX8_divideBy_62
theorem DX8_divideBy_66 : cX8_divideBy.data.toList.drop 66 = TX8_divideBy_66 := dr1 DX8_divideBy_65
theorem DX8_divideBy_69 : cX8_divideBy.data.toList.drop 69 = TX8_divideBy_69 := dr3 DX8_divideBy_66
theorem DX8_divideBy_70 : cX8_divideBy.data.toList.drop 70 = TX8_divideBy_70 := dr1 DX8_divideBy_69
theorem DX8_divideBy_71 : cX8_divideBy.data.toList.drop 71 = TX8_divideBy_71 := dr1 DX8_divideBy_70
theorem DX8_divideBy_72 : cX8_divideBy.data.toList.drop 72 = TX8_divideBy_72 := dr1 DX8_divideBy_71
theorem DX8_divideBy_75 : cX8_divideBy.data.toList.drop 75 = TX8_divideBy_75 := dr3 DX8_divideBy_72
theorem DX8_divideBy_77 : cX8_divideBy.data.toList.drop 77 = TX8_divideBy_77 := dr2 DX8_divideBy_75
theorem DX8_divideBy_78 : cX8_divideBy.data.toList.drop 78 = TX8_divideBy_78 := dr1 DX8_divideBy_77
theorem DX8_divideBy_81 : cX8_divideBy.data.toList.drop 81 = TX8_divideBy_81 := dr3 DX8_divideBy_78
theorem DX8_divideBy_83 : cX8_divideBy.data.toList.drop 83 = TX8_divideBy_83 := dr2 DX8_divideBy_81
theorem DX8_divideBy_86 : cX8_divideBy.data.toList.drop 86 = TX8_divideBy_86 := dr3 DX8_divideBy_83
theorem DX8_divideBy_87 : cX8_divideBy.data.toList.drop 87 = TX8_divideBy_87 := dr1 DX8_divideBy_86
theorem DX8_divideBy_90 : cX8_divideBy.data.toList.drop 90 = TX8_divideBy_90 := dr3 DX8_divideBy_87
theorem DX8_divideBy_93 : cX8_divideBy.data.toList.drop 93 = TX8_divideBy_93 := dr3 DX8_divideBy_90
theorem DX8_divideBy_94 : cX8_divideBy.data.toList.drop 94 = TX8_divideBy_94 := dr1 DX8_divideBy_93
theorem DX8_divideBy_95 : cX8_divideBy.data.toList.drop 95 = TX8_divideBy_95 := dr1 DX8_divideBy_94
theorem DX8_divideBy_96 : cX8_divideBy.data.toList.drop 96 = TX8_divideBy_96 := dr1 DX8_divideBy_95
theorem DX8_divideBy_99 : cX8_divideBy.data.toList.drop 99 = TX8_divideBy_99 := dr3 DX8_divideBy_96
theorem DX8_divideBy_100 : cX8_divideBy.data.toList.drop 100 = TX8_divideBy_100 := dr1 DX8_divideBy_99
theorem DX8_divideBy_101 : cX8_divideBy.data.toList.drop 101 = TX8_divideBy_101 := dr1 DX8_divideBy_100
theorem DX8_divideBy_102 : cX8_divideBy.data.toList.drop 102 = TX8_divideBy_102 := dr1 DX8_divideBy_101
theorem DX8_divideBy_104 : cX8_divideBy.data.toList.drop 104 = TX8_divideBy_104 := dr2 DX8_divideBy_102
theorem DX8_divideBy_107 : cX8_divideBy.data.toList.drop 107 = TX8_divideBy_107 := dr3 DX8_divideBy_104
theorem dX8_divideBy_0 : decode cX8_divideBy 0 = .ok (.aload_n 0, 1) := do_2a DX8_divideBy_0
theorem dX8_divideBy_1 : decode cX8_divideBy 1 = .ok (.iload_n 1, 1) := do_1b DX8_divideBy_1
theorem dX8_divideBy_2 : decode cX8_divideBy 2 = .ok (.invokestatic 145, 3) := do_b8 DX8_divideBy_2
theorem dX8_divideBy_5 : decode cX8_divideBy 5 = .ok (.iconst 1, 1) := do_04 DX8_divideBy_5
theorem dX8_divideBy_6 : decode cX8_divideBy 6 = .ok (.invokevirtual 149, 3) := do_b6 DX8_divideBy_6
theorem dX8_divideBy_9 : decode cX8_divideBy 9 = .ok (.ifCond .ne 27, 3) := do_9a DX8_divideBy_9 (by decide +kernel)
theorem dX8_divideBy_12 : decode cX8_divideBy 12 = .ok (.aload_n 0, 1) := do_2a DX8_divideBy_12
theorem dX8_divideBy_13 : decode cX8_divideBy 13 = .ok (.iload_n 2, 1) := do_1c DX8_divideBy_13
theorem dX8_divideBy_14 : decode cX8_divideBy 14 = .ok (.bipush (-99), 2) := do_10 DX8_divideBy_14 (by decide +kernel)
theorem dX8_divideBy_16 : decode cX8_divideBy 16 = .ok (.bipush 99, 2) := do_10 DX8_divideBy_16 (by decide +kernel)
theorem dX8_divideBy_18 : decode cX8_divideBy 18 = .ok (.invokestatic 49, 3) := do_b8 DX8_divideBy_18
theorem dX8_divideBy_21 : decode cX8_divideBy 21 = .ok (.ifCond .ne 7, 3) := do_9a DX8_divideBy_21 (by decide +kernel)
theorem dX8_divideBy_24 : decode cX8_divideBy 24 = .ok (.iconst 1, 1) := do_04 DX8_divideBy_24
theorem dX8_divideBy_25 : decode cX8_divideBy 25 = .ok (.goto 4, 3) := do_a7 DX8_divideBy_25 (by decide +kernel)
theorem dX8_divideBy_28 : decode cX8_divideBy 28 = .ok (.iconst 0, 1) := do_03 DX8_divideBy_28
theorem dX8_divideBy_29 : decode cX8_divideBy 29 = .ok (.iconst 2, 1) := do_05 DX8_divideBy_29
theorem dX8_divideBy_30 : decode cX8_divideBy 30 = .ok (.invokevirtual 45, 3) := do_b6 DX8_divideBy_30
theorem dX8_divideBy_33 : decode cX8_divideBy 33 = .ok (.ifCond .eq 5, 3) := do_99 DX8_divideBy_33 (by decide +kernel)
theorem dX8_divideBy_36 : decode cX8_divideBy 36 = .ok (.iconst 0, 1) := do_03 DX8_divideBy_36
theorem dX8_divideBy_37 : decode cX8_divideBy 37 = .ok (.ireturn, 1) := do_ac DX8_divideBy_37
theorem dX8_divideBy_38 : decode cX8_divideBy 38 = .ok (.iload_n 2, 1) := do_1c DX8_divideBy_38
theorem dX8_divideBy_39 : decode cX8_divideBy 39 = .ok (.ifCond .ne 7, 3) := do_9a DX8_divideBy_39 (by decide +kernel)
theorem dX8_divideBy_42 : decode cX8_divideBy 42 = .ok (.aconst_null, 1) := do_01 DX8_divideBy_42
theorem dX8_divideBy_43 : decode cX8_divideBy 43 = .ok (.goto 13, 3) := do_a7 DX8_divideBy_43 (by decide +kernel)
theorem dX8_divideBy_46 : decode cX8_divideBy 46 = .ok (.aload_n 0, 1) := do_2a DX8_divideBy_46
theorem dX8_divideBy_47 : decode cX8_divideBy 47 = .ok (.getfield 24, 3) := do_b4 DX8_divideBy_47
theorem dX8_divideBy_50 : decode cX8_divideBy 50 = .ok (.iload_n 1, 1) := do_1b DX8_divideBy_50
theorem dX8_divideBy_51 : decode cX8_divideBy 51 = .ok (.aaload, 1) := do_32 DX8_divideBy_51
theorem dX8_divideBy_52 : decode cX8_divideBy 52 = .ok (.iload_n 2, 1) := do_1c DX8_divideBy_52
theorem dX8_divideBy_53 : decode cX8_divideBy 53 = .ok (.invokestatic 243, 3) := do_b8 DX8_divideBy_53
theorem dX8_divideBy_56 : decode cX8_divideBy 56 = .ok (.astore_n 3, 1) := do_4e DX8_divideBy_56
theorem dX8_divideBy_57 : decode cX8_divideBy 57 = .ok (.iload_n 2, 1) := do_1c DX8_divideBy_57
theorem dX8_divideBy_58 : decode cX8_divideBy 58 = .ok (.ifCond .ne 7, 3) := do_9a DX8_divideBy_58 (by decide +kernel)
theorem dX8_divideBy_61 : decode cX8_divideBy 61 = .ok (.aconst_null, 1) := do_01 DX8_divideBy_61
theorem dX8_divideBy_62 : decode cX8_divideBy 62 = .ok (.goto 13, 3) := do_a7 DX8_divideBy_62 (by decide +kernel)
theorem dX8_divideBy_65 : decode cX8_divideBy 65 = .ok (.aload_n 0, 1) := do_2a DX8_divideBy_65
theorem dX8_divideBy_66 : decode cX8_divideBy 66 = .ok (.getfield 28, 3) := do_b4 DX8_divideBy_66
theorem dX8_divideBy_69 : decode cX8_divideBy 69 = .ok (.iload_n 1, 1) := do_1b DX8_divideBy_69
theorem dX8_divideBy_70 : decode cX8_divideBy 70 = .ok (.aaload, 1) := do_32 DX8_divideBy_70
theorem dX8_divideBy_71 : decode cX8_divideBy 71 = .ok (.iload_n 2, 1) := do_1c DX8_divideBy_71
theorem dX8_divideBy_72 : decode cX8_divideBy 72 = .ok (.invokestatic 243, 3) := do_b8 DX8_divideBy_72
theorem dX8_divideBy_75 : decode cX8_divideBy 75 = .ok (.astore 4, 2) := do_3a DX8_divideBy_75
theorem dX8_divideBy_77 : decode cX8_divideBy 77 = .ok (.aload_n 3, 1) := do_2d DX8_divideBy_77
theorem dX8_divideBy_78 : decode cX8_divideBy 78 = .ok (.ifnull 8, 3) := do_c6 DX8_divideBy_78 (by decide +kernel)
theorem dX8_divideBy_81 : decode cX8_divideBy 81 = .ok (.aload 4, 2) := do_19 DX8_divideBy_81
theorem dX8_divideBy_83 : decode cX8_divideBy 83 = .ok (.ifnonnull 10, 3) := do_c7 DX8_divideBy_83 (by decide +kernel)
theorem dX8_divideBy_86 : decode cX8_divideBy 86 = .ok (.aload_n 0, 1) := do_2a DX8_divideBy_86
theorem dX8_divideBy_87 : decode cX8_divideBy 87 = .ok (.invokevirtual 158, 3) := do_b6 DX8_divideBy_87
theorem dX8_divideBy_90 : decode cX8_divideBy 90 = .ok (.goto 17, 3) := do_a7 DX8_divideBy_90 (by decide +kernel)
theorem dX8_divideBy_93 : decode cX8_divideBy 93 = .ok (.aload_n 0, 1) := do_2a DX8_divideBy_93
theorem dX8_divideBy_94 : decode cX8_divideBy 94 = .ok (.iload_n 1, 1) := do_1b DX8_divideBy_94
theorem dX8_divideBy_95 : decode cX8_divideBy 95 = .ok (.aload_n 0, 1) := do_2a DX8_divideBy_95
theorem dX8_divideBy_96 : decode cX8_divideBy 96 = .ok (.getfield 16, 3) := do_b4 DX8_divideBy_96
theorem dX8_divideBy_99 : decode cX8_divideBy 99 = .ok (.iload_n 1, 1) := do_1b DX8_divideBy_99
theorem dX8_divideBy_100 : decode cX8_divideBy 100 = .ok (.iaload, 1) := do_2e DX8_divideBy_100
theorem dX8_divideBy_101 : decode cX8_divideBy 101 = .ok (.aload_n 3, 1) := do_2d DX8_divideBy_101
theorem dX8_divideBy_102 : decode cX8_divideBy 102 = .ok (.aload 4, 2) := do_19 DX8_divideBy_102
theorem dX8_divideBy_104 : decode cX8_divideBy 104 = .ok (.invokevirtual 232, 3) := do_b6 DX8_divideBy_104
theorem dX8_divideBy_107 : decode cX8_divideBy 107 = .ok (.ireturn, 1) := do_ac DX8_divideBy_107
def TX8_pairCopy_55 : List UInt8 := []
def TX8_pairCopy_54 : List UInt8 := 172 :: TX8_pairCopy_55
def TX8_pairCopy_51 : List UInt8 := 182 :: 0 :: 232 :: TX8_pairCopy_54
def TX8_pairCopy_50 : List UInt8 := 50 :: TX8_pairCopy_51
def TX8_pairCopy_49 : List UInt8 := 27 :: TX8_pairCopy_50
def TX8_pairCopy_46 : List UInt8 := 180 :: 0 :: 28 :: TX8_pairCopy_49
def TX8_pairCopy_45 : List UInt8 := 42 :: TX8_pairCopy_46
def TX8_pairCopy_44 : List UInt8 := 50 :: TX8_pairCopy_45
def TX8_pairCopy_43 : List UInt8 := 27 :: TX8_pairCopy_44
def TX8_pairCopy_40 : List UInt8 := 180 :: 0 :: 24 :: TX8_pairCopy_43
def TX8_pairCopy_39 : List UInt8 := 42 :: TX8_pairCopy_40
def TX8_pairCopy_38 : List UInt8 := 46 :: TX8_pairCopy_39
def TX8_pairCopy_37 : List UInt8 := 27 :: TX8_pairCopy_38
def TX8_pairCopy_34 : List UInt8 := 180 :: 0 :: 16 :: TX8_pairCopy_37
def TX8_pairCopy_33 : List UInt8 := 42 :: TX8_pairCopy_34
def TX8_pairCopy_32 : List UInt8 := 28 :: TX8_pairCopy_33
def TX8_pairCopy_31 : List UInt8 := 42 :: TX8_pairCopy_32
def TX8_pairCopy_28 : List UInt8 := 167 :: 0 :: 26 :: TX8_pairCopy_31
def TX8_pairCopy_27 : List UInt8 := 3 :: TX8_pairCopy_28
def TX8_pairCopy_24 : List UInt8 := 153 :: 0 :: 7 :: TX8_pairCopy_27
def TX8_pairCopy_21 : List UInt8 := 182 :: 0 :: 149 :: TX8_pairCopy_24
def TX8_pairCopy_20 : List UInt8 := 4 :: TX8_pairCopy_21
def TX8_pairCopy_19 : List UInt8 := 3 :: TX8_pairCopy_20
def TX8_pairCopy_16 : List UInt8 := 167 :: 0 :: 4 :: TX8_pairCopy_19
def TX8_pairCopy_15 : List UInt8 := 4 :: TX8_pairCopy_16
def TX8_pairCopy_12 : List UInt8 := 153 :: 0 :: 7 :: TX8_pairCopy_15
def TX8_pairCopy_9 : List UInt8 := 184 :: 0 :: 145 :: TX8_pairCopy_12
def TX8_pairCopy_8 : List UInt8 := 28 :: TX8_pairCopy_9
def TX8_pairCopy_5 : List UInt8 := 154 :: 0 :: 10 :: TX8_pairCopy_8
def TX8_pairCopy_2 : List UInt8 := 184 :: 0 :: 145 :: TX8_pairCopy_5
def TX8_pairCopy_1 : List UInt8 := 27 :: TX8_pairCopy_2
def TX8_pairCopy_0 : List UInt8 := 42 :: TX8_pairCopy_1
theorem DX8_pairCopy_0 : cX8_pairCopy.data.toList.drop 0 = TX8_pairCopy_0 := by decide +kernel
theorem DX8_pairCopy_1 : cX8_pairCopy.data.toList.drop 1 = TX8_pairCopy_1 := dr1 DX8_pairCopy_0
theorem DX8_pairCopy_2 : cX8_pairCopy.data.toList.drop 2 = TX8_pairCopy_2 := dr1 DX8_pairCopy_1
theorem DX8_pairCopy_5 : cX8_pairCopy.data.toList.drop 5 = TX8_pairCopy_5 := dr3 DX8_pairCopy_2
theorem DX8_pairCopy_8 : cX8_pairCopy.data.toList.drop 8 = TX8_pairCopy_8 := dr3 DX8_pairCopy_5
theorem DX8_pairCopy_9 : cX8_pairCopy.data.toList.drop 9 = TX8_pairCopy_9 := dr1 DX8_pairCopy_8
theorem DX8_pairCopy_12 : cX8_pairCopy.data.toList.drop 12 = TX8_pairCopy_12 := dr3 DX8_pairCopy_9
theorem DX8_pairCopy_15 : cX8_pairCopy.data.toList.drop 15 = TX8_pairCopy_15 := dr3 DX8_pairCopy_12
theorem DX8_pairCopy_16 : cX8_pairCopy.data.toList.drop 16 = TX8_pairCopy_16 := dr1 DX8_pairCopy_15
theorem DX8_pairCopy_19 : cX8_pairCopy.data.toList.drop 19 = TX8_pairCopy_19 := dr3 DX8_pairCopy_16
theorem DX8_pairCopy_20 : cX8_pairCopy.data.toList.drop 20 = TX8_pairCopy_20 := dr1 DX8_pairCopy_19
theorem DX8_pairCopy_21 : cX8_pairCopy.data.toList.drop 21 = TX8_pairCopy_21 := dr1 DX8_pairCopy_20
theorem DX8_pairCopy_24 : cX8_pairCopy.data.toList.drop 24 = TX8_pairCopy_24 := dr3 DX8_pairCopy_21
theorem DX8_pairCopy_27 : cX8_pairCopy.data.toList.drop 27 = TX8_pairCopy_27 := dr3 DX8_pairCopy_24
theorem DX8_pairCopy_28 : cX8_pairCopy.data.toList.drop 28 = TX8_pairCopy_28 := dr1 DX8_pairCopy_27
theorem DX8_pairCopy_31 : cX8_pairCopy.data.toList.drop 31 = TX8_pairCopy_31 := dr3 DX8_pairCopy_28
theorem DX8_pairCopy_32 : cX8_pairCopy.data.toList.drop 32 = TX8_pairCopy_32 := dr1 DX8_pairCopy_31
theorem DX8_pairCopy_33 : cX8_pairCopy.data.toList.drop 33 = TX8_pairCopy_33 := dr1 DX8_pairCopy_32
theorem DX8_pairCopy_34 : cX8_pairCopy.data.toList.drop 34 = TX8_pairCopy_34 := dr1 DX8_pairCopy_33
theorem DX8_pairCopy_37 : cX8_pairCopy.data.toList.drop 37 = TX8_pairCopy_37 := dr3 DX8_pairCopy_34
theorem DX8_pairCopy_38 : cX8_pairCopy.data.toList.drop 38 = TX8_pairCopy_38 := dr1 DX8_pairCopy_37
theorem DX8_pairCopy_39 : cX8_pairCopy.data.toList.drop 39 = TX8_pairCopy_39 := dr1 DX8_pairCopy_38
theorem DX8_pairCopy_40 : cX8_pairCopy.data.toList.drop 40 = TX8_pairCopy_40 := dr1 DX8_pairCopy_39
theorem DX8_pairCopy_43 : cX8_pairCopy.data.toList.drop 43 = TX8_pairCopy_43 := dr3 DX8_pairCopy_40
theorem DX8_pairCopy_44 : cX8_pairCopy.data.toList.drop 44 = TX8_pairCopy_44 := dr1 DX8_pairCopy_43
theorem DX8_pairCopy_45 : cX8_pairCopy.data.toList.drop 45 = TX8_pairCopy_45 := dr1 DX8_pairCopy_44
theorem DX8_pairCopy_46 : cX8_pairCopy.data.toList.drop 46 = TX8_pairCopy_46 := dr1 DX8_pairCopy_45
theorem DX8_pairCopy_49 : cX8_pairCopy.data.toList.drop 49 = TX8_pairCopy_49 := dr3 DX8_pairCopy_46
theorem DX8_pairCopy_50 : cX8_pairCopy.data.toList.drop 50 = TX8_pairCopy_50 := dr1 DX8_pairCopy_49
theorem DX8_pairCopy_51 : cX8_pairCopy.data.toList.drop 51 = TX8_pairCopy_51 := dr1 DX8_pairCopy_50
theorem DX8_pairCopy_54 : cX8_pairCopy.data.toList.drop 54 = TX8_pairCopy_54 := dr3 DX8_pairCopy_51
theorem dX8_pairCopy_0 : decode cX8_pairCopy 0 = .ok (.aload_n 0, 1) := do_2a DX8_pairCopy_0
theorem dX8_pairCopy_1 : decode cX8_pairCopy 1 = .ok (.iload_n 1, 1) := do_1b DX8_pairCopy_1
theorem dX8_pairCopy_2 : decode cX8_pairCopy 2 = .ok (.invokestatic 145, 3) := do_b8 DX8_pairCopy_2
theorem dX8_pairCopy_5 : decode cX8_pairCopy 5 = .ok (.ifCond .ne 10, 3) := do_9a DX8_pairCopy_5 (by decide +kernel)
theorem dX8_pairCopy_8 : decode cX8_pairCopy 8 = .ok (.iload_n 2, 1) := do_1c DX8_pairCopy_8
theorem dX8_pairCopy_9 : decode cX8_pairCopy 9 = .ok (.invokestatic 145, 3) := do_b8 DX8_pairCopy_9
theorem dX8_pairCopy_12 : decode cX8_pairCopy 12 = .ok (.ifCond .eq 7, 3) := do_99 DX8_pairCopy_12 (by decide +kernel)
theorem dX8_pairCopy_15 : decode cX8_pairCopy 15 = .ok (.iconst 1, 1) := do_04 DX8_pairCopy_15
theorem dX8_pairCopy_16 : decode cX8_pairCopy 16 = .ok (.goto 4, 3) := do_a7 DX8_pairCopy_16 (by decide +kernel)
theorem dX8_pairCopy_19 : decode cX8_pairCopy 19 = .ok (.iconst 0, 1) := do_03 DX8_pairCopy_19
theorem dX8_pairCopy_20 : decode cX8_pairCopy 20 = .ok (.iconst 1, 1) := do_04 DX8_pairCopy_20
theorem dX8_pairCopy_21 : decode cX8_pairCopy 21 = .ok (.invokevirtual 149, 3) := do_b6 DX8_pairCopy_21
theorem dX8_pairCopy_24 : decode cX8_pairCopy 24 = .ok (.ifCond .eq 7, 3) := do_99 DX8_pairCopy_24 (by decide +kernel)
theorem dX8_pairCopy_27 : decode cX8_pairCopy 27 = .ok (.iconst 0, 1) := do_03 DX8_pairCopy_27
theorem dX8_pairCopy_28 : decode cX8_pairCopy 28 = .ok (.goto 26, 3) := do_a7 DX8_pairCopy_28 (by decide +kernel)
theorem dX8_pairCopy_31 : decode cX8_pairCopy 31 = .ok (.aload_n 0, 1) := do_2a DX8_pairCopy_31
theorem dX8_pairCopy_32 : decode cX8_pairCopy 32 = .ok (.iload_n 2, 1) := do_1c DX8_pairCopy_32
theorem dX8_pairCopy_33 : decode cX8_pairCopy 33 = .ok (.aload_n 0, 1) := do_2a DX8_pairCopy_33
theorem dX8_pairCopy_34 : decode cX8_pairCopy 34 = .ok (.getfield 16, 3) := do_b4 DX8_pairCopy_34
theorem dX8_pairCopy_37 : decode cX8_pairCopy 37 = .ok (.iload_n 1, 1) := do_1b DX8_pairCopy_37
theorem dX8_pairCopy_38 : decode cX8_pairCopy 38 = .ok (.iaload, 1) := do_2e DX8_pairCopy_38
theorem dX8_pairCopy_39 : decode cX8_pairCopy 39 = .ok (.aload_n 0, 1) := do_2a DX8_pairCopy_39
theorem dX8_pairCopy_40 : decode cX8_pairCopy 40 = .ok (.getfield 24, 3) := do_b4 DX8_pairCopy_40
theorem dX8_pairCopy_43 : decode cX8_pairCopy 43 = .ok (.iload_n 1, 1) := do_1b DX8_pairCopy_43
theorem dX8_pairCopy_44 : decode cX8_pairCopy 44 = .ok (.aaload, 1) := do_32 DX8_pairCopy_44
theorem dX8_pairCopy_45 : decode cX8_pairCopy 45 = .ok (.aload_n 0, 1) := do_2a DX8_pairCopy_45
theorem dX8_pairCopy_46 : decode cX8_pairCopy 46 = .ok (.getfield 28, 3) := do_b4 DX8_pairCopy_46
theorem dX8_pairCopy_49 : decode cX8_pairCopy 49 = .ok (.iload_n 1, 1) := do_1b DX8_pairCopy_49
theorem dX8_pairCopy_50 : decode cX8_pairCopy 50 = .ok (.aaload, 1) := do_32 DX8_pairCopy_50
theorem dX8_pairCopy_51 : decode cX8_pairCopy 51 = .ok (.invokevirtual 232, 3) := do_b6 DX8_pairCopy_51
theorem dX8_pairCopy_54 : decode cX8_pairCopy 54 = .ok (.ireturn, 1) := do_ac DX8_pairCopy_54
def TX8_pairBase_23 : List UInt8 := []
def TX8_pairBase_22 : List UInt8 := 172 :: TX8_pairBase_23
def TX8_pairBase_21 : List UInt8 := 46 :: TX8_pairBase_22
def TX8_pairBase_20 : List UInt8 := 27 :: TX8_pairBase_21
def TX8_pairBase_17 : List UInt8 := 180 :: 0 :: 16 :: TX8_pairBase_20
def TX8_pairBase_16 : List UInt8 := 42 :: TX8_pairBase_17
def TX8_pairBase_13 : List UInt8 := 167 :: 0 :: 9 :: TX8_pairBase_16
def TX8_pairBase_12 : List UInt8 := 3 :: TX8_pairBase_13
def TX8_pairBase_9 : List UInt8 := 153 :: 0 :: 7 :: TX8_pairBase_12
def TX8_pairBase_6 : List UInt8 := 182 :: 0 :: 149 :: TX8_pairBase_9
def TX8_pairBase_5 : List UInt8 := 4 :: TX8_pairBase_6
def TX8_pairBase_2 : List UInt8 := 184 :: 0 :: 145 :: TX8_pairBase_5
def TX8_pairBase_1 : List UInt8 := 27 :: TX8_pairBase_2
def TX8_pairBase_0 : List UInt8 := 42 :: TX8_pairBase_1
theorem DX8_pairBase_0 : cX8_pairBase.data.toList.drop 0 = TX8_pairBase_0 := by decide +kernel
theorem DX8_pairBase_1 : cX8_pairBase.data.toList.drop 1 = TX8_pairBase_1 := dr1 DX8_pairBase_0
theorem DX8_pairBase_2 : cX8_pairBase.data.toList.drop 2 = TX8_pairBase_2 := dr1 DX8_pairBase_1
theorem DX8_pairBase_5 : cX8_pairBase.data.toList.drop 5 = TX8_pairBase_5 := dr3 DX8_pairBase_2
theorem DX8_pairBase_6 : cX8_pairBase.data.toList.drop 6 = TX8_pairBase_6 := dr1 DX8_pairBase_5
theorem DX8_pairBase_9 : cX8_pairBase.data.toList.drop 9 = TX8_pairBase_9 := dr3 DX8_pairBase_6
theorem DX8_pairBase_12 : cX8_pairBase.data.toList.drop 12 = TX8_pairBase_12 := dr3 DX8_pairBase_9
theorem DX8_pairBase_13 : cX8_pairBase.data.toList.drop 13 = TX8_pairBase_13 := dr1 DX8_pairBase_12
theorem DX8_pairBase_16 : cX8_pairBase.data.toList.drop 16 = TX8_pairBase_16 := dr3 DX8_pairBase_13
theorem DX8_pairBase_17 : cX8_pairBase.data.toList.drop 17 = TX8_pairBase_17 := dr1 DX8_pairBase_16
theorem DX8_pairBase_20 : cX8_pairBase.data.toList.drop 20 = TX8_pairBase_20 := dr3 DX8_pairBase_17
theorem DX8_pairBase_21 : cX8_pairBase.data.toList.drop 21 = TX8_pairBase_21 := dr1 DX8_pairBase_20
theorem DX8_pairBase_22 : cX8_pairBase.data.toList.drop 22 = TX8_pairBase_22 := dr1 DX8_pairBase_21
theorem dX8_pairBase_0 : decode cX8_pairBase 0 = .ok (.aload_n 0, 1) := do_2a DX8_pairBase_0
theorem dX8_pairBase_1 : decode cX8_pairBase 1 = .ok (.iload_n 1, 1) := do_1b DX8_pairBase_1
theorem dX8_pairBase_2 : decode cX8_pairBase 2 = .ok (.invokestatic 145, 3) := do_b8 DX8_pairBase_2
theorem dX8_pairBase_5 : decode cX8_pairBase 5 = .ok (.iconst 1, 1) := do_04 DX8_pairBase_5
theorem dX8_pairBase_6 : decode cX8_pairBase 6 = .ok (.invokevirtual 149, 3) := do_b6 DX8_pairBase_6
theorem dX8_pairBase_9 : decode cX8_pairBase 9 = .ok (.ifCond .eq 7, 3) := do_99 DX8_pairBase_9 (by decide +kernel)
theorem dX8_pairBase_12 : decode cX8_pairBase 12 = .ok (.iconst 0, 1) := do_03 DX8_pairBase_12
theorem dX8_pairBase_13 : decode cX8_pairBase 13 = .ok (.goto 9, 3) := do_a7 DX8_pairBase_13 (by decide +kernel)
theorem dX8_pairBase_16 : decode cX8_pairBase 16 = .ok (.aload_n 0, 1) := do_2a DX8_pairBase_16
theorem dX8_pairBase_17 : decode cX8_pairBase 17 = .ok (.getfield 16, 3) := do_b4 DX8_pairBase_17
theorem dX8_pairBase_20 : decode cX8_pairBase 20 = .ok (.iload_n 1, 1) := do_1b DX8_pairBase_20
theorem dX8_pairBase_21 : decode cX8_pairBase 21 = .ok (.iaload, 1) := do_2e DX8_pairBase_21
theorem dX8_pairBase_22 : decode cX8_pairBase 22 = .ok (.ireturn, 1) := do_ac DX8_pairBase_22
def TX8_its_20 : List UInt8 := []
def TX8_its_19 : List UInt8 := 176 :: TX8_its_20
def TX8_its_18 : List UInt8 := 50 :: TX8_its_19
def TX8_its_17 : List UInt8 := 27 :: TX8_its_18
def TX8_its_14 : List UInt8 := 180 :: 0 :: 28 :: TX8_its_17
def TX8_its_13 : List UInt8 := 42 :: TX8_its_14
def TX8_its_10 : List UInt8 := 167 :: 0 :: 9 :: TX8_its_13
def TX8_its_9 : List UInt8 := 50 :: TX8_its_10
def TX8_its_8 : List UInt8 := 27 :: TX8_its_9
def TX8_its_5 : List UInt8 := 180 :: 0 :: 24 :: TX8_its_8
def TX8_its_4 : List UInt8 := 42 :: TX8_its_5
def TX8_its_1 : List UInt8 := 153 :: 0 :: 12 :: TX8_its_4
def TX8_its_0 : List UInt8 := 28 :: TX8_its_1
theorem DX8_its_0 : cX8_its.data.toList.drop 0 = TX8_its_0 := by decide +kernel
theorem DX8_its_1 : cX8_its.data.toList.drop 1 = TX8_its_1 := dr1 DX8_its_0
theorem DX8_its_4 : cX8_its.data.toList.drop 4 = TX8_its_4 := dr3 DX8_its_1
theorem DX8_its_5 : cX8_its.data.toList.drop 5 = TX8_its_5 := dr1 DX8_its_4
theorem DX8_its_8 : cX8_its.data.toList.drop 8 = TX8_its_8 := dr3 DX8_its_5
theorem DX8_its_9 : cX8_its.data.toList.drop 9 = TX8_its_9 := dr1 DX8_its_8
theorem DX8_its_10 : cX8_its.data.toList.drop 10 = TX8_its_10 := dr1 DX8_its_9
theorem DX8_its_13 : cX8_its.data.toList.drop 13 = TX8_its_13 := dr3 DX8_its_10
theorem DX8_its_14 : cX8_its.data.toList.drop 14 = TX8_its_14 := dr1 DX8_its_13
theorem DX8_its_17 : cX8_its.data.toList.drop 17 = TX8_its_17 := dr3 DX8_its_14
theorem DX8_its_18 : cX8_its.data.toList.drop 18 = TX8_its_18 := dr1 DX8_its_17
theorem DX8_its_19 : cX8_its.data.toList.drop 19 = TX8_its_19 := dr1 DX8_its_18
theorem dX8_its_0 : decode cX8_its 0 = .ok (.iload_n 2, 1) := do_1c DX8_its_0
theorem dX8_its_1 : decode cX8_its 1 = .ok (.ifCond .eq 12, 3) := do_99 DX8_its_1 (by decide +kernel)
theorem dX8_its_4 : decode cX8_its 4 = .ok (.aload_n 0, 1) := do_2a DX8_its_4
theorem dX8_its_5 : decode cX8_its 5 = .ok (.getfield 24, 3) := do_b4 DX8_its_5
theorem dX8_its_8 : decode cX8_its 8 = .ok (.iload_n 1, 1) := do_1b DX8_its_8
theorem dX8_its_9 : decode cX8_its 9 = .ok (.aaload, 1) := do_32 DX8_its_9
theorem dX8_its_10 : decode cX8_its 10 = .ok (.goto 9, 3) := do_a7 DX8_its_10 (by decide +kernel)
theorem dX8_its_13 : decode cX8_its 13 = .ok (.aload_n 0, 1) := do_2a DX8_its_13
theorem dX8_its_14 : decode cX8_its 14 = .ok (.getfield 28, 3) := do_b4 DX8_its_14
theorem dX8_its_17 : decode cX8_its 17 = .ok (.iload_n 1, 1) := do_1b DX8_its_17
theorem dX8_its_18 : decode cX8_its 18 = .ok (.aaload, 1) := do_32 DX8_its_18
theorem dX8_its_19 : decode cX8_its 19 = .ok (.areturn, 1) := do_b0 DX8_its_19
def TX8_pairText_29 : List UInt8 := []
def TX8_pairText_28 : List UInt8 := 176 :: TX8_pairText_29
def TX8_pairText_25 : List UInt8 := 184 :: 0 :: 171 :: TX8_pairText_28
def TX8_pairText_23 : List UInt8 := 16 :: 10 :: TX8_pairText_25
def TX8_pairText_20 : List UInt8 := 182 :: 0 :: 246 :: TX8_pairText_23
def TX8_pairText_19 : List UInt8 := 28 :: TX8_pairText_20
def TX8_pairText_18 : List UInt8 := 27 :: TX8_pairText_19
def TX8_pairText_17 : List UInt8 := 42 :: TX8_pairText_18
def TX8_pairText_14 : List UInt8 := 167 :: 0 :: 14 :: TX8_pairText_17
def TX8_pairText_12 : List UInt8 := 18 :: 165 :: TX8_pairText_14
def TX8_pairText_9 : List UInt8 := 153 :: 0 :: 8 :: TX8_pairText_12
def TX8_pairText_6 : List UInt8 := 182 :: 0 :: 149 :: TX8_pairText_9
def TX8_pairText_5 : List UInt8 := 4 :: TX8_pairText_6
def TX8_pairText_2 : List UInt8 := 184 :: 0 :: 145 :: TX8_pairText_5
def TX8_pairText_1 : List UInt8 := 27 :: TX8_pairText_2
def TX8_pairText_0 : List UInt8 := 42 :: TX8_pairText_1
theorem DX8_pairText_0 : cX8_pairText.data.toList.drop 0 = TX8_pairText_0 := by decide +kernel
theorem DX8_pairText_1 : cX8_pairText.data.toList.drop 1 = TX8_pairText_1 := dr1 DX8_pairText_0
theorem DX8_pairText_2 : cX8_pairText.data.toList.drop 2 = TX8_pairText_2 := dr1 DX8_pairText_1
theorem DX8_pairText_5 : cX8_pairText.data.toList.drop 5 = TX8_pairText_5 := dr3 DX8_pairText_2
theorem DX8_pairText_6 : cX8_pairText.data.toList.drop 6 = TX8_pairText_6 := dr1 DX8_pairText_5
theorem DX8_pairText_9 : cX8_pairText.data.toList.drop 9 = TX8_pairText_9 := dr3 DX8_pairText_6
theorem DX8_pairText_12 : cX8_pairText.data.toList.drop 12 = TX8_pairText_12 := dr3 DX8_pairText_9
theorem DX8_pairText_14 : cX8_pairText.data.toList.drop 14 = TX8_pairText_14 := dr2 DX8_pairText_12
theorem DX8_pairText_17 : cX8_pairText.data.toList.drop 17 = TX8_pairText_17 := dr3 DX8_pairText_14
theorem DX8_pairText_18 : cX8_pairText.data.toList.drop 18 = TX8_pairText_18 := dr1 DX8_pairText_17
theorem DX8_pairText_19 : cX8_pairText.data.toList.drop 19 = TX8_pairText_19 := dr1 DX8_pairText_18
theorem DX8_pairText_20 : cX8_pairText.data.toList.drop 20 = TX8_pairText_20 := dr1 DX8_pairText_19
theorem DX8_pairText_23 : cX8_pairText.data.toList.drop 23 = TX8_pairText_23 := dr3 DX8_pairText_20
theorem DX8_pairText_25 : cX8_pairText.data.toList.drop 25 = TX8_pairText_25 := dr2 DX8_pairText_23
theorem DX8_pairText_28 : cX8_pairText.data.toList.drop 28 = TX8_pairText_28 := dr3 DX8_pairText_25
theorem dX8_pairText_0 : decode cX8_pairText 0 = .ok (.aload_n 0, 1) := do_2a DX8_pairText_0
theorem dX8_pairText_1 : decode cX8_pairText 1 = .ok (.iload_n 1, 1) := do_1b DX8_pairText_1
theorem dX8_pairText_2 : decode cX8_pairText 2 = .ok (.invokestatic 145, 3) := do_b8 DX8_pairText_2
theorem dX8_pairText_5 : decode cX8_pairText 5 = .ok (.iconst 1, 1) := do_04 DX8_pairText_5
theorem dX8_pairText_6 : decode cX8_pairText 6 = .ok (.invokevirtual 149, 3) := do_b6 DX8_pairText_6
theorem dX8_pairText_9 : decode cX8_pairText 9 = .ok (.ifCond .eq 8, 3) := do_99 DX8_pairText_9 (by decide +kernel)
theorem dX8_pairText_12 : decode cX8_pairText 12 = .ok (.ldc 165, 2) := by decide +kernel
theorem dX8_pairText_14 : decode cX8_pairText 14 = .ok (.goto 14, 3) := do_a7 DX8_pairText_14 (by decide +kernel)
theorem dX8_pairText_17 : decode cX8_pairText 17 = .ok (.aload_n 0, 1) := do_2a DX8_pairText_17
theorem dX8_pairText_18 : decode cX8_pairText 18 = .ok (.iload_n 1, 1) := do_1b DX8_pairText_18
theorem dX8_pairText_19 : decode cX8_pairText 19 = .ok (.iload_n 2, 1) := do_1c DX8_pairText_19
theorem dX8_pairText_20 : decode cX8_pairText 20 = .ok (.invokevirtual 246, 3) := do_b6 DX8_pairText_20
theorem dX8_pairText_23 : decode cX8_pairText 23 = .ok (.bipush 10, 2) := do_10 DX8_pairText_23 (by decide +kernel)
theorem dX8_pairText_25 : decode cX8_pairText 25 = .ok (.invokestatic 171, 3) := do_b8 DX8_pairText_25
theorem dX8_pairText_28 : decode cX8_pairText 28 = .ok (.areturn, 1) := do_b0 DX8_pairText_28
def TX8_pairNorm_44 : List UInt8 := []
def TX8_pairNorm_43 : List UInt8 := 176 :: TX8_pairNorm_44
def TX8_pairNorm_40 : List UInt8 := 184 :: 0 :: 171 :: TX8_pairNorm_43
def TX8_pairNorm_38 : List UInt8 := 16 :: 10 :: TX8_pairNorm_40
def TX8_pairNorm_35 : List UInt8 := 184 :: 0 :: 188 :: TX8_pairNorm_38
def TX8_pairNorm_34 : List UInt8 := 50 :: TX8_pairNorm_35
def TX8_pairNorm_33 : List UInt8 := 27 :: TX8_pairNorm_34
def TX8_pairNorm_30 : List UInt8 := 180 :: 0 :: 28 :: TX8_pairNorm_33
def TX8_pairNorm_29 : List UInt8 := 42 :: TX8_pairNorm_30
def TX8_pairNorm_28 : List UInt8 := 50 :: TX8_pairNorm_29
def TX8_pairNorm_27 : List UInt8 := 27 :: TX8_pairNorm_28
def TX8_pairNorm_24 : List UInt8 := 180 :: 0 :: 24 :: TX8_pairNorm_27
def TX8_pairNorm_23 : List UInt8 := 42 :: TX8_pairNorm_24
def TX8_pairNorm_22 : List UInt8 := 46 :: TX8_pairNorm_23
def TX8_pairNorm_21 : List UInt8 := 27 :: TX8_pairNorm_22
def TX8_pairNorm_18 : List UInt8 := 180 :: 0 :: 16 :: TX8_pairNorm_21
def TX8_pairNorm_17 : List UInt8 := 42 :: TX8_pairNorm_18
def TX8_pairNorm_14 : List UInt8 := 167 :: 0 :: 29 :: TX8_pairNorm_17
def TX8_pairNorm_12 : List UInt8 := 18 :: 165 :: TX8_pairNorm_14
def TX8_pairNorm_9 : List UInt8 := 153 :: 0 :: 8 :: TX8_pairNorm_12
def TX8_pairNorm_6 : List UInt8 := 182 :: 0 :: 149 :: TX8_pairNorm_9
def TX8_pairNorm_5 : List UInt8 := 4 :: TX8_pairNorm_6
def TX8_pairNorm_2 : List UInt8 := 184 :: 0 :: 145 :: TX8_pairNorm_5
def TX8_pairNorm_1 : List UInt8 := 27 :: TX8_pairNorm_2
def TX8_pairNorm_0 : List UInt8 := 42 :: TX8_pairNorm_1
theorem DX8_pairNorm_0 : cX8_pairNorm.data.toList.drop 0 = TX8_pairNorm_0 := by decide +kernel
theorem DX8_pairNorm_1 : cX8_pairNorm.data.toList.drop 1 = TX8_pairNorm_1 := dr1 DX8_pairNorm_0
theorem DX8_pairNorm_2 : cX8_pairNorm.data.toList.drop 2 = TX8_pairNorm_2 := dr1 DX8_pairNorm_1
theorem DX8_pairNorm_5 : cX8_pairNorm.data.toList.drop 5 = TX8_pairNorm_5 := dr3 DX8_pairNorm_2
theorem DX8_pairNorm_6 : cX8_pairNorm.data.toList.drop 6 = TX8_pairNorm_6 := dr1 DX8_pairNorm_5
theorem DX8_pairNorm_9 : cX8_pairNorm.data.toList.drop 9 = TX8_pairNorm_9 := dr3 DX8_pairNorm_6
theorem DX8_pairNorm_12 : cX8_pairNorm.data.toList.drop 12 = TX8_pairNorm_12 := dr3 DX8_pairNorm_9
theorem DX8_pairNorm_14 : cX8_pairNorm.data.toList.drop 14 = TX8_pairNorm_14 := dr2 DX8_pairNorm_12
theorem DX8_pairNorm_17 : cX8_pairNorm.data.toList.drop 17 = TX8_pairNorm_17 := dr3 DX8_pairNorm_14
theorem DX8_pairNorm_18 : cX8_pairNorm.data.toList.drop 18 = TX8_pairNorm_18 := dr1 DX8_pairNorm_17
theorem DX8_pairNorm_21 : cX8_pairNorm.data.toList.drop 21 = TX8_pairNorm_21 := dr3 DX8_pairNorm_18
theorem DX8_pairNorm_22 : cX8_pairNorm.data.toList.drop 22 = TX8_pairNorm_22 := dr1 DX8_pairNorm_21
theorem DX8_pairNorm_23 : cX8_pairNorm.data.toList.drop 23 = TX8_pairNorm_23 := dr1 DX8_pairNorm_22
theorem DX8_pairNorm_24 : cX8_pairNorm.data.toList.drop 24 = TX8_pairNorm_24 := dr1 DX8_pairNorm_23
theorem DX8_pairNorm_27 : cX8_pairNorm.data.toList.drop 27 = TX8_pairNorm_27 := dr3 DX8_pairNorm_24
theorem DX8_pairNorm_28 : cX8_pairNorm.data.toList.drop 28 = TX8_pairNorm_28 := dr1 DX8_pairNorm_27
theorem DX8_pairNorm_29 : cX8_pairNorm.data.toList.drop 29 = TX8_pairNorm_29 := dr1 DX8_pairNorm_28
theorem DX8_pairNorm_30 : cX8_pairNorm.data.toList.drop 30 = TX8_pairNorm_30 := dr1 DX8_pairNorm_29
theorem DX8_pairNorm_33 : cX8_pairNorm.data.toList.drop 33 = TX8_pairNorm_33 := dr3 DX8_pairNorm_30
theorem DX8_pairNorm_34 : cX8_pairNorm.data.toList.drop 34 = TX8_pairNorm_34 := dr1 DX8_pairNorm_33
theorem DX8_pairNorm_35 : cX8_pairNorm.data.toList.drop 35 = TX8_pairNorm_35 := dr1 DX8_pairNorm_34
theorem DX8_pairNorm_38 : cX8_pairNorm.data.toList.drop 38 = TX8_pairNorm_38 := dr3 DX8_pairNorm_35
theorem DX8_pairNorm_40 : cX8_pairNorm.data.toList.drop 40 = TX8_pairNorm_40 := dr2 DX8_pairNorm_38
theorem DX8_pairNorm_43 : cX8_pairNorm.data.toList.drop 43 = TX8_pairNorm_43 := dr3 DX8_pairNorm_40
theorem dX8_pairNorm_0 : decode cX8_pairNorm 0 = .ok (.aload_n 0, 1) := do_2a DX8_pairNorm_0
theorem dX8_pairNorm_1 : decode cX8_pairNorm 1 = .ok (.iload_n 1, 1) := do_1b DX8_pairNorm_1
theorem dX8_pairNorm_2 : decode cX8_pairNorm 2 = .ok (.invokestatic 145, 3) := do_b8 DX8_pairNorm_2
theorem dX8_pairNorm_5 : decode cX8_pairNorm 5 = .ok (.iconst 1, 1) := do_04 DX8_pairNorm_5
theorem dX8_pairNorm_6 : decode cX8_pairNorm 6 = .ok (.invokevirtual 149, 3) := do_b6 DX8_pairNorm_6
theorem dX8_pairNorm_9 : decode cX8_pairNorm 9 = .ok (.ifCond .eq 8, 3) := do_99 DX8_pairNorm_9 (by decide +kernel)
theorem dX8_pairNorm_12 : decode cX8_pairNorm 12 = .ok (.ldc 165, 2) := by decide +kernel
theorem dX8_pairNorm_14 : decode cX8_pairNorm 14 = .ok (.goto 29, 3) := do_a7 DX8_pairNorm_14 (by decide +kernel)
theorem dX8_pairNorm_17 : decode cX8_pairNorm 17 = .ok (.aload_n 0, 1) := do_2a DX8_pairNorm_17
theorem dX8_pairNorm_18 : decode cX8_pairNorm 18 = .ok (.getfield 16, 3) := do_b4 DX8_pairNorm_18
theorem dX8_pairNorm_21 : decode cX8_pairNorm 21 = .ok (.iload_n 1, 1) := do_1b DX8_pairNorm_21
theorem dX8_pairNorm_22 : decode cX8_pairNorm 22 = .ok (.iaload, 1) := do_2e DX8_pairNorm_22
theorem dX8_pairNorm_23 : decode cX8_pairNorm 23 = .ok (.aload_n 0, 1) := do_2a DX8_pairNorm_23
theorem dX8_pairNorm_24 : decode cX8_pairNorm 24 = .ok (.getfield 24, 3) := do_b4 DX8_pairNorm_24
theorem dX8_pairNorm_27 : decode cX8_pairNorm 27 = .ok (.iload_n 1, 1) := do_1b DX8_pairNorm_27
theorem dX8_pairNorm_28 : decode cX8_pairNorm 28 = .ok (.aaload, 1) := do_32 DX8_pairNorm_28
theorem dX8_pairNorm_29 : decode cX8_pairNorm 29 = .ok (.aload_n 0, 1) := do_2a DX8_pairNorm_29
theorem dX8_pairNorm_30 : decode cX8_pairNorm 30 = .ok (.getfield 28, 3) := do_b4 DX8_pairNorm_30
theorem dX8_pairNorm_33 : decode cX8_pairNorm 33 = .ok (.iload_n 1, 1) := do_1b DX8_pairNorm_33
theorem dX8_pairNorm_34 : decode cX8_pairNorm 34 = .ok (.aaload, 1) := do_32 DX8_pairNorm_34
theorem dX8_pairNorm_35 : decode cX8_pairNorm 35 = .ok (.invokestatic 188, 3) := do_b8 DX8_pairNorm_35
theorem dX8_pairNorm_38 : decode cX8_pairNorm 38 = .ok (.bipush 10, 2) := do_10 DX8_pairNorm_38 (by decide +kernel)
theorem dX8_pairNorm_40 : decode cX8_pairNorm 40 = .ok (.invokestatic 171, 3) := do_b8 DX8_pairNorm_40
theorem dX8_pairNorm_43 : decode cX8_pairNorm 43 = .ok (.areturn, 1) := do_b0 DX8_pairNorm_43
def TX8_pairBits_49 : List UInt8 := []
def TX8_pairBits_48 : List UInt8 := 172 :: TX8_pairBits_49
def TX8_pairBits_45 : List UInt8 := 184 :: 0 :: 121 :: TX8_pairBits_48
def TX8_pairBits_44 : List UInt8 := 29 :: TX8_pairBits_45
def TX8_pairBits_41 : List UInt8 := 182 :: 0 :: 246 :: TX8_pairBits_44
def TX8_pairBits_40 : List UInt8 := 28 :: TX8_pairBits_41
def TX8_pairBits_39 : List UInt8 := 27 :: TX8_pairBits_40
def TX8_pairBits_38 : List UInt8 := 42 :: TX8_pairBits_39
def TX8_pairBits_35 : List UInt8 := 167 :: 0 :: 13 :: TX8_pairBits_38
def TX8_pairBits_34 : List UInt8 := 3 :: TX8_pairBits_35
def TX8_pairBits_31 : List UInt8 := 153 :: 0 :: 7 :: TX8_pairBits_34
def TX8_pairBits_28 : List UInt8 := 182 :: 0 :: 45 :: TX8_pairBits_31
def TX8_pairBits_27 : List UInt8 := 5 :: TX8_pairBits_28
def TX8_pairBits_26 : List UInt8 := 3 :: TX8_pairBits_27
def TX8_pairBits_23 : List UInt8 := 167 :: 0 :: 4 :: TX8_pairBits_26
def TX8_pairBits_22 : List UInt8 := 4 :: TX8_pairBits_23
def TX8_pairBits_19 : List UInt8 := 154 :: 0 :: 7 :: TX8_pairBits_22
def TX8_pairBits_16 : List UInt8 := 184 :: 0 :: 49 :: TX8_pairBits_19
def TX8_pairBits_15 : List UInt8 := 5 :: TX8_pairBits_16
def TX8_pairBits_14 : List UInt8 := 3 :: TX8_pairBits_15
def TX8_pairBits_13 : List UInt8 := 29 :: TX8_pairBits_14
def TX8_pairBits_12 : List UInt8 := 42 :: TX8_pairBits_13
def TX8_pairBits_9 : List UInt8 := 154 :: 0 :: 25 :: TX8_pairBits_12
def TX8_pairBits_6 : List UInt8 := 182 :: 0 :: 149 :: TX8_pairBits_9
def TX8_pairBits_5 : List UInt8 := 4 :: TX8_pairBits_6
def TX8_pairBits_2 : List UInt8 := 184 :: 0 :: 145 :: TX8_pairBits_5
def TX8_pairBits_1 : List UInt8 := 27 :: TX8_pairBits_2
def TX8_pairBits_0 : List UInt8 := 42 :: TX8_pairBits_1
theorem DX8_pairBits_0 : cX8_pairBits.data.toList.drop 0 = TX8_pairBits_0 := by decide +kernel
theorem DX8_pairBits_1 : cX8_pairBits.data.toList.drop 1 = TX8_pairBits_1 := dr1 DX8_pairBits_0
theorem DX8_pairBits_2 : cX8_pairBits.data.toList.drop 2 = TX8_pairBits_2 := dr1 DX8_pairBits_1
theorem DX8_pairBits_5 : cX8_pairBits.data.toList.drop 5 = TX8_pairBits_5 := dr3 DX8_pairBits_2
theorem DX8_pairBits_6 : cX8_pairBits.data.toList.drop 6 = TX8_pairBits_6 := dr1 DX8_pairBits_5
theorem DX8_pairBits_9 : cX8_pairBits.data.toList.drop 9 = TX8_pairBits_9 := dr3 DX8_pairBits_6
theorem DX8_pairBits_12 : cX8_pairBits.data.toList.drop 12 = TX8_pairBits_12 := dr3 DX8_pairBits_9
theorem DX8_pairBits_13 : cX8_pairBits.data.toList.drop 13 = TX8_pairBits_13 := dr1 DX8_pairBits_12
theorem DX8_pairBits_14 : cX8_pairBits.data.toList.drop 14 = TX8_pairBits_14 := dr1 DX8_pairBits_13
theorem DX8_pairBits_15 : cX8_pairBits.data.toList.drop 15 = TX8_pairBits_15 := dr1 DX8_pairBits_14
theorem DX8_pairBits_16 : cX8_pairBits.data.toList.drop 16 = TX8_pairBits_16 := dr1 DX8_pairBits_15
theorem DX8_pairBits_19 : cX8_pairBits.data.toList.drop 19 = TX8_pairBits_19 := dr3 DX8_pairBits_16
theorem DX8_pairBits_22 : cX8_pairBits.data.toList.drop 22 = TX8_pairBits_22 := dr3 DX8_pairBits_19
theorem DX8_pairBits_23 : cX8_pairBits.data.toList.drop 23 = TX8_pairBits_23 := dr1 DX8_pairBits_22
theorem DX8_pairBits_26 : cX8_pairBits.data.toList.drop 26 = TX8_pairBits_26 := dr3 DX8_pairBits_23
theorem DX8_pairBits_27 : cX8_pairBits.data.toList.drop 27 = TX8_pairBits_27 := dr1 DX8_pairBits_26
theorem DX8_pairBits_28 : cX8_pairBits.data.toList.drop 28 = TX8_pairBits_28 := dr1 DX8_pairBits_27
theorem DX8_pairBits_31 : cX8_pairBits.data.toList.drop 31 = TX8_pairBits_31 := dr3 DX8_pairBits_28
theorem DX8_pairBits_34 : cX8_pairBits.data.toList.drop 34 = TX8_pairBits_34 := dr3 DX8_pairBits_31
theorem DX8_pairBits_35 : cX8_pairBits.data.toList.drop 35 = TX8_pairBits_35 := dr1 DX8_pairBits_34
theorem DX8_pairBits_38 : cX8_pairBits.data.toList.drop 38 = TX8_pairBits_38 := dr3 DX8_pairBits_35
theorem DX8_pairBits_39 : cX8_pairBits.data.toList.drop 39 = TX8_pairBits_39 := dr1 DX8_pairBits_38
theorem DX8_pairBits_40 : cX8_pairBits.data.toList.drop 40 = TX8_pairBits_40 := dr1 DX8_pairBits_39
theorem DX8_pairBits_41 : cX8_pairBits.data.toList.drop 41 = TX8_pairBits_41 := dr1 DX8_pairBits_40
theorem DX8_pairBits_44 : cX8_pairBits.data.toList.drop 44 = TX8_pairBits_44 := dr3 DX8_pairBits_41
theorem DX8_pairBits_45 : cX8_pairBits.data.toList.drop 45 = TX8_pairBits_45 := dr1 DX8_pairBits_44
theorem DX8_pairBits_48 : cX8_pairBits.data.toList.drop 48 = TX8_pairBits_48 := dr3 DX8_pairBits_45
theorem dX8_pairBits_0 : decode cX8_pairBits 0 = .ok (.aload_n 0, 1) := do_2a DX8_pairBits_0
theorem dX8_pairBits_1 : decode cX8_pairBits 1 = .ok (.iload_n 1, 1) := do_1b DX8_pairBits_1
theorem dX8_pairBits_2 : decode cX8_pairBits 2 = .ok (.invokestatic 145, 3) := do_b8 DX8_pairBits_2
theorem dX8_pairBits_5 : decode cX8_pairBits 5 = .ok (.iconst 1, 1) := do_04 DX8_pairBits_5
theorem dX8_pairBits_6 : decode cX8_pairBits 6 = .ok (.invokevirtual 149, 3) := do_b6 DX8_pairBits_6
theorem dX8_pairBits_9 : decode cX8_pairBits 9 = .ok (.ifCond .ne 25, 3) := do_9a DX8_pairBits_9 (by decide +kernel)
theorem dX8_pairBits_12 : decode cX8_pairBits 12 = .ok (.aload_n 0, 1) := do_2a DX8_pairBits_12
theorem dX8_pairBits_13 : decode cX8_pairBits 13 = .ok (.iload_n 3, 1) := do_1d DX8_pairBits_13
theorem dX8_pairBits_14 : decode cX8_pairBits 14 = .ok (.iconst 0, 1) := do_03 DX8_pairBits_14
theorem dX8_pairBits_15 : decode cX8_pairBits 15 = .ok (.iconst 2, 1) := do_05 DX8_pairBits_15
theorem dX8_pairBits_16 : decode cX8_pairBits 16 = .ok (.invokestatic 49, 3) := do_b8 DX8_pairBits_16
theorem dX8_pairBits_19 : decode cX8_pairBits 19 = .ok (.ifCond .ne 7, 3) := do_9a DX8_pairBits_19 (by decide +kernel)
theorem dX8_pairBits_22 : decode cX8_pairBits 22 = .ok (.iconst 1, 1) := do_04 DX8_pairBits_22
theorem dX8_pairBits_23 : decode cX8_pairBits 23 = .ok (.goto 4, 3) := do_a7 DX8_pairBits_23 (by decide +kernel)
theorem dX8_pairBits_26 : decode cX8_pairBits 26 = .ok (.iconst 0, 1) := do_03 DX8_pairBits_26
theorem dX8_pairBits_27 : decode cX8_pairBits 27 = .ok (.iconst 2, 1) := do_05 DX8_pairBits_27
theorem dX8_pairBits_28 : decode cX8_pairBits 28 = .ok (.invokevirtual 45, 3) := do_b6 DX8_pairBits_28
theorem dX8_pairBits_31 : decode cX8_pairBits 31 = .ok (.ifCond .eq 7, 3) := do_99 DX8_pairBits_31 (by decide +kernel)
theorem dX8_pairBits_34 : decode cX8_pairBits 34 = .ok (.iconst 0, 1) := do_03 DX8_pairBits_34
theorem dX8_pairBits_35 : decode cX8_pairBits 35 = .ok (.goto 13, 3) := do_a7 DX8_pairBits_35 (by decide +kernel)
theorem dX8_pairBits_38 : decode cX8_pairBits 38 = .ok (.aload_n 0, 1) := do_2a DX8_pairBits_38
theorem dX8_pairBits_39 : decode cX8_pairBits 39 = .ok (.iload_n 1, 1) := do_1b DX8_pairBits_39
theorem dX8_pairBits_40 : decode cX8_pairBits 40 = .ok (.iload_n 2, 1) := do_1c DX8_pairBits_40
theorem dX8_pairBits_41 : decode cX8_pairBits 41 = .ok (.invokevirtual 246, 3) := do_b6 DX8_pairBits_41
theorem dX8_pairBits_44 : decode cX8_pairBits 44 = .ok (.iload_n 3, 1) := do_1d DX8_pairBits_44
theorem dX8_pairBits_45 : decode cX8_pairBits 45 = .ok (.invokestatic 121, 3) := do_b8 DX8_pairBits_45
theorem dX8_pairBits_48 : decode cX8_pairBits 48 = .ok (.ireturn, 1) := do_ac DX8_pairBits_48
def TX8_rank_138 : List UInt8 := []
def TX8_rank_137 : List UInt8 := 172 :: TX8_rank_138
def TX8_rank_135 : List UInt8 := 21 :: 5 :: TX8_rank_137
def TX8_rank_132 : List UInt8 := 167 :: 255 :: 201 :: TX8_rank_135
def TX8_rank_129 : List UInt8 := 132 :: 5 :: 1 :: TX8_rank_132
def TX8_rank_127 : List UInt8 := 58 :: 4 :: TX8_rank_129
def TX8_rank_124 : List UInt8 := 184 :: 0 :: 239 :: TX8_rank_127
def TX8_rank_123 : List UInt8 := 50 :: TX8_rank_124
def TX8_rank_122 : List UInt8 := 4 :: TX8_rank_123
def TX8_rank_121 : List UInt8 := 45 :: TX8_rank_122
def TX8_rank_120 : List UInt8 := 50 :: TX8_rank_121
def TX8_rank_119 : List UInt8 := 3 :: TX8_rank_120
def TX8_rank_118 : List UInt8 := 45 :: TX8_rank_119
def TX8_rank_117 : List UInt8 := 50 :: TX8_rank_118
def TX8_rank_116 : List UInt8 := 4 :: TX8_rank_117
def TX8_rank_114 : List UInt8 := 25 :: 4 :: TX8_rank_116
def TX8_rank_113 : List UInt8 := 50 :: TX8_rank_114
def TX8_rank_112 : List UInt8 := 3 :: TX8_rank_113
def TX8_rank_110 : List UInt8 := 25 :: 4 :: TX8_rank_112
def TX8_rank_109 : List UInt8 := 28 :: TX8_rank_110
def TX8_rank_106 : List UInt8 := 153 :: 0 :: 29 :: TX8_rank_109
def TX8_rank_103 : List UInt8 := 184 :: 0 :: 63 :: TX8_rank_106
def TX8_rank_102 : List UInt8 := 50 :: TX8_rank_103
def TX8_rank_101 : List UInt8 := 27 :: TX8_rank_102
def TX8_rank_98 : List UInt8 := 180 :: 0 :: 28 :: TX8_rank_101
def TX8_rank_97 : List UInt8 := 42 :: TX8_rank_98
def TX8_rank_96 : List UInt8 := 50 :: TX8_rank_97
def TX8_rank_95 : List UInt8 := 4 :: TX8_rank_96
def TX8_rank_93 : List UInt8 := 25 :: 4 :: TX8_rank_95
def TX8_rank_90 : List UInt8 := 154 :: 0 :: 19 :: TX8_rank_93
def TX8_rank_87 : List UInt8 := 184 :: 0 :: 63 :: TX8_rank_90
def TX8_rank_86 : List UInt8 := 50 :: TX8_rank_87
def TX8_rank_85 : List UInt8 := 27 :: TX8_rank_86
def TX8_rank_82 : List UInt8 := 180 :: 0 :: 24 :: TX8_rank_85
def TX8_rank_81 : List UInt8 := 42 :: TX8_rank_82
def TX8_rank_80 : List UInt8 := 50 :: TX8_rank_81
def TX8_rank_79 : List UInt8 := 3 :: TX8_rank_80
def TX8_rank_77 : List UInt8 := 25 :: 4 :: TX8_rank_79
def TX8_rank_75 : List UInt8 := 54 :: 5 :: TX8_rank_77
def TX8_rank_74 : List UInt8 := 3 :: TX8_rank_75
def TX8_rank_72 : List UInt8 := 58 :: 4 :: TX8_rank_74
def TX8_rank_71 : List UInt8 := 83 :: TX8_rank_72
def TX8_rank_68 : List UInt8 := 184 :: 0 :: 20 :: TX8_rank_71
def TX8_rank_67 : List UInt8 := 9 :: TX8_rank_68
def TX8_rank_66 : List UInt8 := 4 :: TX8_rank_67
def TX8_rank_65 : List UInt8 := 89 :: TX8_rank_66
def TX8_rank_64 : List UInt8 := 83 :: TX8_rank_65
def TX8_rank_61 : List UInt8 := 184 :: 0 :: 20 :: TX8_rank_64
def TX8_rank_60 : List UInt8 := 10 :: TX8_rank_61
def TX8_rank_59 : List UInt8 := 3 :: TX8_rank_60
def TX8_rank_58 : List UInt8 := 89 :: TX8_rank_59
def TX8_rank_55 : List UInt8 := 189 :: 0 :: 19 :: TX8_rank_58
def TX8_rank_54 : List UInt8 := 5 :: TX8_rank_55
def TX8_rank_53 : List UInt8 := 78 :: TX8_rank_54
def TX8_rank_50 : List UInt8 := 184 :: 0 :: 225 :: TX8_rank_53
def TX8_rank_49 : List UInt8 := 28 :: TX8_rank_50
def TX8_rank_48 : List UInt8 := 172 :: TX8_rank_49
def TX8_rank_47 : List UInt8 := 2 :: TX8_rank_48
def TX8_rank_44 : List UInt8 := 153 :: 0 :: 5 :: TX8_rank_47
def TX8_rank_41 : List UInt8 := 184 :: 0 :: 199 :: TX8_rank_44
def TX8_rank_38 : List UInt8 := 184 :: 0 :: 20 :: TX8_rank_41
def TX8_rank_37 : List UInt8 := 10 :: TX8_rank_38
def TX8_rank_34 : List UInt8 := 184 :: 0 :: 188 :: TX8_rank_37
def TX8_rank_33 : List UInt8 := 50 :: TX8_rank_34
def TX8_rank_32 : List UInt8 := 27 :: TX8_rank_33
def TX8_rank_29 : List UInt8 := 180 :: 0 :: 28 :: TX8_rank_32
def TX8_rank_28 : List UInt8 := 42 :: TX8_rank_29
def TX8_rank_27 : List UInt8 := 50 :: TX8_rank_28
def TX8_rank_26 : List UInt8 := 27 :: TX8_rank_27
def TX8_rank_23 : List UInt8 := 180 :: 0 :: 24 :: TX8_rank_26
def TX8_rank_22 : List UInt8 := 42 :: TX8_rank_23
def TX8_rank_21 : List UInt8 := 28 :: TX8_rank_22
def TX8_rank_20 : List UInt8 := 61 :: TX8_rank_21
def TX8_rank_19 : List UInt8 := 46 :: TX8_rank_20
def TX8_rank_18 : List UInt8 := 27 :: TX8_rank_19
def TX8_rank_15 : List UInt8 := 180 :: 0 :: 16 :: TX8_rank_18
def TX8_rank_14 : List UInt8 := 42 :: TX8_rank_15
def TX8_rank_13 : List UInt8 := 172 :: TX8_rank_14
def TX8_rank_12 : List UInt8 := 3 :: TX8_rank_13
def TX8_rank_9 : List UInt8 := 153 :: 0 :: 5 :: TX8_rank_12
def TX8_rank_6 : List UInt8 := 182 :: 0 :: 149 :: TX8_rank_9
def TX8_rank_5 : List UInt8 := 4 :: TX8_rank_6
def TX8_rank_2 : List UInt8 := 184 :: 0 :: 145 :: TX8_rank_5
def TX8_rank_1 : List UInt8 := 27 :: TX8_rank_2
def TX8_rank_0 : List UInt8 := 42 :: TX8_rank_1
theorem DX8_rank_0 : cX8_rank.data.toList.drop 0 = TX8_rank_0 := by decide +kernel
theorem DX8_rank_1 : cX8_rank.data.toList.drop 1 = TX8_rank_1 := dr1 DX8_rank_0
theorem DX8_rank_2 : cX8_rank.data.toList.drop 2 = TX8_rank_2 := dr1 DX8_rank_1
theorem DX8_rank_5 : cX8_rank.data.toList.drop 5 = TX8_rank_5 := dr3 DX8_rank_2
theorem DX8_rank_6 : cX8_rank.data.toList.drop 6 = TX8_rank_6 := dr1 DX8_rank_5
theorem DX8_rank_9 : cX8_rank.data.toList.drop 9 = TX8_rank_9 := dr3 DX8_rank_6
theorem DX8_rank_12 : cX8_rank.data.toList.drop 12 = TX8_rank_12 := dr3 DX8_rank_9
theorem DX8_rank_13 : cX8_rank.data.toList.drop 13 = TX8_rank_13 := dr1 DX8_rank_12
theorem DX8_rank_14 : cX8_rank.data.toList.drop 14 = TX8_rank_14 := dr1 DX8_rank_13
theorem DX8_rank_15 : cX8_rank.data.toList.drop 15 = TX8_rank_15 := dr1 DX8_rank_14
theorem DX8_rank_18 : cX8_rank.data.toList.drop 18 = TX8_rank_18 := dr3 DX8_rank_15
theorem DX8_rank_19 : cX8_rank.data.toList.drop 19 = TX8_rank_19 := dr1 DX8_rank_18
theorem DX8_rank_20 : cX8_rank.data.toList.drop 20 = TX8_rank_20 := dr1 DX8_rank_19
theorem DX8_rank_21 : cX8_rank.data.toList.drop 21 = TX8_rank_21 := dr1 DX8_rank_20
theorem DX8_rank_22 : cX8_rank.data.toList.drop 22 = TX8_rank_22 := dr1 DX8_rank_21
theorem DX8_rank_23 : cX8_rank.data.toList.drop 23 = TX8_rank_23 := dr1 DX8_rank_22
theorem DX8_rank_26 : cX8_rank.data.toList.drop 26 = TX8_rank_26 := dr3 DX8_rank_23
theorem DX8_rank_27 : cX8_rank.data.toList.drop 27 = TX8_rank_27 := dr1 DX8_rank_26
theorem DX8_rank_28 : cX8_rank.data.toList.drop 28 = TX8_rank_28 := dr1 DX8_rank_27
theorem DX8_rank_29 : cX8_rank.data.toList.drop 29 = TX8_rank_29 := dr1 DX8_rank_28
theorem DX8_rank_32 : cX8_rank.data.toList.drop 32 = TX8_rank_32 := dr3 DX8_rank_29
theorem DX8_rank_33 : cX8_rank.data.toList.drop 33 = TX8_rank_33 := dr1 DX8_rank_32
theorem DX8_rank_34 : cX8_rank.data.toList.drop 34 = TX8_rank_34 := dr1 DX8_rank_33
theorem DX8_rank_37 : cX8_rank.data.toList.drop 37 = TX8_rank_37 := dr3 DX8_rank_34
theorem DX8_rank_38 : cX8_rank.data.toList.drop 38 = TX8_rank_38 := dr1 DX8_rank_37
theorem DX8_rank_41 : cX8_rank.data.toList.drop 41 = TX8_rank_41 := dr3 DX8_rank_38
theorem DX8_rank_44 : cX8_rank.data.toList.drop 44 = TX8_rank_44 := dr3 DX8_rank_41
theorem DX8_rank_47 : cX8_rank.data.toList.drop 47 = TX8_rank_47 := dr3 DX8_rank_44
theorem DX8_rank_48 : cX8_rank.data.toList.drop 48 = TX8_rank_48 := dr1 DX8_rank_47
theorem DX8_rank_49 : cX8_rank.data.toList.drop 49 = TX8_rank_49 := dr1 DX8_rank_48
theorem DX8_rank_50 : cX8_rank.data.toList.drop 50 = TX8_rank_50 := dr1 DX8_rank_49
theorem DX8_rank_53 : cX8_rank.data.toList.drop 53 = TX8_rank_53 := dr3 DX8_rank_50
theorem DX8_rank_54 : cX8_rank.data.toList.drop 54 = TX8_rank_54 := dr1 DX8_rank_53
theorem DX8_rank_55 : cX8_rank.data.toList.drop 55 = TX8_rank_55 := dr1 DX8_rank_54
theorem DX8_rank_58 : cX8_rank.data.toList.drop 58 = TX8_rank_58 := dr3 DX8_rank_55
theorem DX8_rank_59 : cX8_rank.data.toList.drop 59 = TX8_rank_59 := dr1 DX8_rank_58
theorem DX8_rank_60 : cX8_rank.data.toList.drop 60 = TX8_rank_60 := dr1 DX8_rank_59
theorem DX8_rank_61 : cX8_rank.data.toList.drop 61 = TX8_rank_61 := dr1 DX8_rank_60
theorem DX8_rank_64 : cX8_rank.data.toList.drop 64 = TX8_rank_64 := dr3 DX8_rank_61
theorem DX8_rank_65 : cX8_rank.data.toList.drop 65 = TX8_rank_65 := dr1 DX8_rank_64
theorem DX8_rank_66 : cX8_rank.data.toList.drop 66 = TX8_rank_66 := dr1 DX8_rank_65
theorem DX8_rank_67 : cX8_rank.data.toList.drop 67 = TX8_rank_67 := dr1 DX8_rank_66
theorem DX8_rank_68 : cX8_rank.data.toList.drop 68 = TX8_rank_68 := dr1 DX8_rank_67
theorem DX8_rank_71 : cX8_rank.data.toList.drop 71 = TX8_rank_71 := dr3 DX8_rank_68
theorem DX8_rank_72 : cX8_rank.data.toList.drop 72 = TX8_rank_72 := dr1 DX8_rank_71
theorem DX8_rank_74 : cX8_rank.data.toList.drop 74 = TX8_rank_74 := dr2 DX8_rank_72
theorem DX8_rank_75 : cX8_rank.data.toList.drop 75 = TX8_rank_75 := dr1 DX8_rank_74
theorem DX8_rank_77 : cX8_rank.data.toList.drop 77 = TX8_rank_77 := dr2 DX8_rank_75
theorem DX8_rank_79 : cX8_rank.data.toList.drop 79 = TX8_rank_79 := dr2 DX8_rank_77
theorem DX8_rank_80 : cX8_rank.data.toList.drop 80 = TX8_rank_80 := dr1 DX8_rank_79
theorem DX8_rank_81 : cX8_rank.data.toList.drop 81 = TX8_rank_81 := dr1 DX8_rank_80
theorem DX8_rank_82 : cX8_rank.data.toList.drop 82 = TX8_rank_82 := dr1 DX8_rank_81
theorem DX8_rank_85 : cX8_rank.data.toList.drop 85 = TX8_rank_85 := dr3 DX8_rank_82
theorem DX8_rank_86 : cX8_rank.data.toList.drop 86 = TX8_rank_86 := dr1 DX8_rank_85
theorem DX8_rank_87 : cX8_rank.data.toList.drop 87 = TX8_rank_87 := dr1 DX8_rank_86
theorem DX8_rank_90 : cX8_rank.data.toList.drop 90 = TX8_rank_90 := dr3 DX8_rank_87
theorem DX8_rank_93 : cX8_rank.data.toList.drop 93 = TX8_rank_93 := dr3 DX8_rank_90
theorem DX8_rank_95 : cX8_rank.data.toList.drop 95 = TX8_rank_95 := dr2 DX8_rank_93
theorem DX8_rank_96 : cX8_rank.data.toList.drop 96 = TX8_rank_96 := dr1 DX8_rank_95
theorem DX8_rank_97 : cX8_rank.data.toList.drop 97 = TX8_rank_97 := dr1 DX8_rank_96
theorem DX8_rank_98 : cX8_rank.data.toList.drop 98 = TX8_rank_98 := dr1 DX8_rank_97
theorem DX8_rank_101 : cX8_rank.data.toList.drop 101 = TX8_rank_101 := dr3 DX8_rank_98
theorem DX8_rank_102 : cX8_rank.data.toList.drop 102 = TX8_rank_102 := dr1 DX8_rank_101
theorem DX8_rank_103 : cX8_rank.data.toList.drop 103 = TX8_rank_103 := dr1 DX8_rank_102
theorem DX8_rank_106 : cX8_rank.data.toList.drop 106 = TX8_rank_106 := dr3 DX8_rank_103
theorem DX8_rank_109 : cX8_rank.data.toList.drop 109 = TX8_rank_109 := dr3 DX8_rank_106
theorem DX8_rank_110 : cX8_rank.data.toList.drop 110 = TX8_rank_110 := dr1 DX8_rank_109
theorem DX8_rank_112 : cX8_rank.data.toList.drop 112 = TX8_rank_112 := dr2 DX8_rank_110
theorem DX8_rank_113 : cX8_rank.data.toList.drop 113 = TX8_rank_113 := dr1 DX8_rank_112
theorem DX8_rank_114 : cX8_rank.data.toList.drop 114 = TX8_rank_114 := dr1 DX8_rank_113
theorem DX8_rank_116 : cX8_rank.data.toList.drop 116 = TX8_rank_116 := dr2 DX8_rank_114
theorem DX8_rank_117 : cX8_rank.data.toList.drop 117 = TX8_rank_117 := dr1 DX8_rank_116
theorem DX8_rank_118 : cX8_rank.data.toList.drop 118 = TX8_rank_118 := dr1 DX8_rank_117
theorem DX8_rank_119 : cX8_rank.data.toList.drop 119 = TX8_rank_119 := dr1 DX8_rank_118
theorem DX8_rank_120 : cX8_rank.data.toList.drop 120 = TX8_rank_120 := dr1 DX8_rank_119
theorem DX8_rank_121 : cX8_rank.data.toList.drop 121 = TX8_rank_121 := dr1 DX8_rank_120
theorem DX8_rank_122 : cX8_rank.data.toList.drop 122 = TX8_rank_122 := dr1 DX8_rank_121
theorem DX8_rank_123 : cX8_rank.data.toList.drop 123 = TX8_rank_123 := dr1 DX8_rank_122
theorem DX8_rank_124 : cX8_rank.data.toList.drop 124 = TX8_rank_124 := dr1 DX8_rank_123
theorem DX8_rank_127 : cX8_rank.data.toList.drop 127 = TX8_rank_127 := dr3 DX8_rank_124
theorem DX8_rank_129 : cX8_rank.data.toList.drop 129 = TX8_rank_129 := dr2 DX8_rank_127
theorem DX8_rank_132 : cX8_rank.data.toList.drop 132 = TX8_rank_132 := dr3 DX8_rank_129
theorem DX8_rank_135 : cX8_rank.data.toList.drop 135 = TX8_rank_135 := dr3 DX8_rank_132
theorem DX8_rank_137 : cX8_rank.data.toList.drop 137 = TX8_rank_137 := dr2 DX8_rank_135
theorem dX8_rank_0 : decode cX8_rank 0 = .ok (.aload_n 0, 1) := do_2a DX8_rank_0
theorem dX8_rank_1 : decode cX8_rank 1 = .ok (.iload_n 1, 1) := do_1b DX8_rank_1
theorem dX8_rank_2 : decode cX8_rank 2 = .ok (.invokestatic 145, 3) := do_b8 DX8_rank_2
theorem dX8_rank_5 : decode cX8_rank 5 = .ok (.iconst 1, 1) := do_04 DX8_rank_5
theorem dX8_rank_6 : decode cX8_rank 6 = .ok (.invokevirtual 149, 3) := do_b6 DX8_rank_6
theorem dX8_rank_9 : decode cX8_rank 9 = .ok (.ifCond .eq 5, 3) := do_99 DX8_rank_9 (by decide +kernel)
theorem dX8_rank_12 : decode cX8_rank 12 = .ok (.iconst 0, 1) := do_03 DX8_rank_12
theorem dX8_rank_13 : decode cX8_rank 13 = .ok (.ireturn, 1) := do_ac DX8_rank_13
theorem dX8_rank_14 : decode cX8_rank 14 = .ok (.aload_n 0, 1) := do_2a DX8_rank_14
theorem dX8_rank_15 : decode cX8_rank 15 = .ok (.getfield 16, 3) := do_b4 DX8_rank_15
theorem dX8_rank_18 : decode cX8_rank 18 = .ok (.iload_n 1, 1) := do_1b DX8_rank_18
theorem dX8_rank_19 : decode cX8_rank 19 = .ok (.iaload, 1) := do_2e DX8_rank_19
theorem dX8_rank_20 : decode cX8_rank 20 = .ok (.istore_n 2, 1) := do_3d DX8_rank_20
theorem dX8_rank_21 : decode cX8_rank 21 = .ok (.iload_n 2, 1) := do_1c DX8_rank_21
theorem dX8_rank_22 : decode cX8_rank 22 = .ok (.aload_n 0, 1) := do_2a DX8_rank_22
theorem dX8_rank_23 : decode cX8_rank 23 = .ok (.getfield 24, 3) := do_b4 DX8_rank_23
theorem dX8_rank_26 : decode cX8_rank 26 = .ok (.iload_n 1, 1) := do_1b DX8_rank_26
theorem dX8_rank_27 : decode cX8_rank 27 = .ok (.aaload, 1) := do_32 DX8_rank_27
theorem dX8_rank_28 : decode cX8_rank 28 = .ok (.aload_n 0, 1) := do_2a DX8_rank_28
theorem dX8_rank_29 : decode cX8_rank 29 = .ok (.getfield 28, 3) := do_b4 DX8_rank_29
theorem dX8_rank_32 : decode cX8_rank 32 = .ok (.iload_n 1, 1) := do_1b DX8_rank_32
theorem dX8_rank_33 : decode cX8_rank 33 = .ok (.aaload, 1) := do_32 DX8_rank_33
theorem dX8_rank_34 : decode cX8_rank 34 = .ok (.invokestatic 188, 3) := do_b8 DX8_rank_34
theorem dX8_rank_37 : decode cX8_rank 37 = .ok (.lconst 1, 1) := do_0a DX8_rank_37
theorem dX8_rank_38 : decode cX8_rank 38 = .ok (.invokestatic 20, 3) := do_b8 DX8_rank_38
theorem dX8_rank_41 : decode cX8_rank 41 = .ok (.invokestatic 199, 3) := do_b8 DX8_rank_41
theorem dX8_rank_44 : decode cX8_rank 44 = .ok (.ifCond .eq 5, 3) := do_99 DX8_rank_44 (by decide +kernel)
theorem dX8_rank_47 : decode cX8_rank 47 = .ok (.iconst (-1), 1) := do_02 DX8_rank_47
theorem dX8_rank_48 : decode cX8_rank 48 = .ok (.ireturn, 1) := do_ac DX8_rank_48
theorem dX8_rank_49 : decode cX8_rank 49 = .ok (.iload_n 2, 1) := do_1c DX8_rank_49
theorem dX8_rank_50 : decode cX8_rank 50 = .ok (.invokestatic 225, 3) := do_b8 DX8_rank_50
theorem dX8_rank_53 : decode cX8_rank 53 = .ok (.astore_n 3, 1) := do_4e DX8_rank_53
theorem dX8_rank_54 : decode cX8_rank 54 = .ok (.iconst 2, 1) := do_05 DX8_rank_54
theorem dX8_rank_55 : decode cX8_rank 55 = .ok (.anewarray 19, 3) := by decide +kernel
theorem dX8_rank_58 : decode cX8_rank 58 = .ok (.dup, 1) := do_59 DX8_rank_58
theorem dX8_rank_59 : decode cX8_rank 59 = .ok (.iconst 0, 1) := do_03 DX8_rank_59
theorem dX8_rank_60 : decode cX8_rank 60 = .ok (.lconst 1, 1) := do_0a DX8_rank_60
theorem dX8_rank_61 : decode cX8_rank 61 = .ok (.invokestatic 20, 3) := do_b8 DX8_rank_61
theorem dX8_rank_64 : decode cX8_rank 64 = .ok (.aastore, 1) := do_53 DX8_rank_64
theorem dX8_rank_65 : decode cX8_rank 65 = .ok (.dup, 1) := do_59 DX8_rank_65
theorem dX8_rank_66 : decode cX8_rank 66 = .ok (.iconst 1, 1) := do_04 DX8_rank_66
theorem dX8_rank_67 : decode cX8_rank 67 = .ok (.lconst 0, 1) := do_09 DX8_rank_67
theorem dX8_rank_68 : decode cX8_rank 68 = .ok (.invokestatic 20, 3) := do_b8 DX8_rank_68
theorem dX8_rank_71 : decode cX8_rank 71 = .ok (.aastore, 1) := do_53 DX8_rank_71
theorem dX8_rank_72 : decode cX8_rank 72 = .ok (.astore 4, 2) := do_3a DX8_rank_72
theorem dX8_rank_74 : decode cX8_rank 74 = .ok (.iconst 0, 1) := do_03 DX8_rank_74
theorem dX8_rank_75 : decode cX8_rank 75 = .ok (.istore 5, 2) := do_36 DX8_rank_75
theorem dX8_rank_77 : decode cX8_rank 77 = .ok (.aload 4, 2) := do_19 DX8_rank_77
theorem dX8_rank_79 : decode cX8_rank 79 = .ok (.iconst 0, 1) := do_03 DX8_rank_79
theorem dX8_rank_80 : decode cX8_rank 80 = .ok (.aaload, 1) := do_32 DX8_rank_80
theorem dX8_rank_81 : decode cX8_rank 81 = .ok (.aload_n 0, 1) := do_2a DX8_rank_81
theorem dX8_rank_82 : decode cX8_rank 82 = .ok (.getfield 24, 3) := do_b4 DX8_rank_82
theorem dX8_rank_85 : decode cX8_rank 85 = .ok (.iload_n 1, 1) := do_1b DX8_rank_85
theorem dX8_rank_86 : decode cX8_rank 86 = .ok (.aaload, 1) := do_32 DX8_rank_86
theorem dX8_rank_87 : decode cX8_rank 87 = .ok (.invokestatic 63, 3) := do_b8 DX8_rank_87
theorem dX8_rank_90 : decode cX8_rank 90 = .ok (.ifCond .ne 19, 3) := do_9a DX8_rank_90 (by decide +kernel)
theorem dX8_rank_93 : decode cX8_rank 93 = .ok (.aload 4, 2) := do_19 DX8_rank_93
theorem dX8_rank_95 : decode cX8_rank 95 = .ok (.iconst 1, 1) := do_04 DX8_rank_95
theorem dX8_rank_96 : decode cX8_rank 96 = .ok (.aaload, 1) := do_32 DX8_rank_96
theorem dX8_rank_97 : decode cX8_rank 97 = .ok (.aload_n 0, 1) := do_2a DX8_rank_97
theorem dX8_rank_98 : decode cX8_rank 98 = .ok (.getfield 28, 3) := do_b4 DX8_rank_98
theorem dX8_rank_101 : decode cX8_rank 101 = .ok (.iload_n 1, 1) := do_1b DX8_rank_101
theorem dX8_rank_102 : decode cX8_rank 102 = .ok (.aaload, 1) := do_32 DX8_rank_102
theorem dX8_rank_103 : decode cX8_rank 103 = .ok (.invokestatic 63, 3) := do_b8 DX8_rank_103
theorem dX8_rank_106 : decode cX8_rank 106 = .ok (.ifCond .eq 29, 3) := do_99 DX8_rank_106 (by decide +kernel)
theorem dX8_rank_109 : decode cX8_rank 109 = .ok (.iload_n 2, 1) := do_1c DX8_rank_109
theorem dX8_rank_110 : decode cX8_rank 110 = .ok (.aload 4, 2) := do_19 DX8_rank_110
theorem dX8_rank_112 : decode cX8_rank 112 = .ok (.iconst 0, 1) := do_03 DX8_rank_112
theorem dX8_rank_113 : decode cX8_rank 113 = .ok (.aaload, 1) := do_32 DX8_rank_113
theorem dX8_rank_114 : decode cX8_rank 114 = .ok (.aload 4, 2) := do_19 DX8_rank_114
theorem dX8_rank_116 : decode cX8_rank 116 = .ok (.iconst 1, 1) := do_04 DX8_rank_116
theorem dX8_rank_117 : decode cX8_rank 117 = .ok (.aaload, 1) := do_32 DX8_rank_117
theorem dX8_rank_118 : decode cX8_rank 118 = .ok (.aload_n 3, 1) := do_2d DX8_rank_118
theorem dX8_rank_119 : decode cX8_rank 119 = .ok (.iconst 0, 1) := do_03 DX8_rank_119
theorem dX8_rank_120 : decode cX8_rank 120 = .ok (.aaload, 1) := do_32 DX8_rank_120
theorem dX8_rank_121 : decode cX8_rank 121 = .ok (.aload_n 3, 1) := do_2d DX8_rank_121
theorem dX8_rank_122 : decode cX8_rank 122 = .ok (.iconst 1, 1) := do_04 DX8_rank_122
theorem dX8_rank_123 : decode cX8_rank 123 = .ok (.aaload, 1) := do_32 DX8_rank_123
theorem dX8_rank_124 : decode cX8_rank 124 = .ok (.invokestatic 239, 3) := do_b8 DX8_rank_124
theorem dX8_rank_127 : decode cX8_rank 127 = .ok (.astore 4, 2) := do_3a DX8_rank_127
theorem dX8_rank_129 : decode cX8_rank 129 = .ok (.iinc 5 1, 3) := do_84 DX8_rank_129
theorem dX8_rank_132 : decode cX8_rank 132 = .ok (.goto (-55), 3) := do_a7 DX8_rank_132 (by decide +kernel)
theorem dX8_rank_135 : decode cX8_rank 135 = .ok (.iload 5, 2) := do_15 DX8_rank_135
theorem dX8_rank_137 : decode cX8_rank 137 = .ok (.ireturn, 1) := do_ac DX8_rank_137
def TX8_order_47 : List UInt8 := []
def TX8_order_46 : List UInt8 := 172 :: TX8_order_47
def TX8_order_43 : List UInt8 := 184 :: 0 :: 199 :: TX8_order_46
def TX8_order_40 : List UInt8 := 182 :: 0 :: 246 :: TX8_order_43
def TX8_order_39 : List UInt8 := 29 :: TX8_order_40
def TX8_order_38 : List UInt8 := 28 :: TX8_order_39
def TX8_order_37 : List UInt8 := 42 :: TX8_order_38
def TX8_order_34 : List UInt8 := 182 :: 0 :: 246 :: TX8_order_37
def TX8_order_33 : List UInt8 := 29 :: TX8_order_34
def TX8_order_32 : List UInt8 := 27 :: TX8_order_33
def TX8_order_31 : List UInt8 := 42 :: TX8_order_32
def TX8_order_28 : List UInt8 := 167 :: 0 :: 18 :: TX8_order_31
def TX8_order_27 : List UInt8 := 3 :: TX8_order_28
def TX8_order_24 : List UInt8 := 153 :: 0 :: 7 :: TX8_order_27
def TX8_order_21 : List UInt8 := 182 :: 0 :: 149 :: TX8_order_24
def TX8_order_20 : List UInt8 := 4 :: TX8_order_21
def TX8_order_19 : List UInt8 := 3 :: TX8_order_20
def TX8_order_16 : List UInt8 := 167 :: 0 :: 4 :: TX8_order_19
def TX8_order_15 : List UInt8 := 4 :: TX8_order_16
def TX8_order_12 : List UInt8 := 153 :: 0 :: 7 :: TX8_order_15
def TX8_order_9 : List UInt8 := 184 :: 0 :: 145 :: TX8_order_12
def TX8_order_8 : List UInt8 := 28 :: TX8_order_9
def TX8_order_5 : List UInt8 := 154 :: 0 :: 10 :: TX8_order_8
def TX8_order_2 : List UInt8 := 184 :: 0 :: 145 :: TX8_order_5
def TX8_order_1 : List UInt8 := 27 :: TX8_order_2
def TX8_order_0 : List UInt8 := 42 :: TX8_order_1
theorem DX8_order_0 : cX8_order.data.toList.drop 0 = TX8_order_0 := by decide +kernel
theorem DX8_order_1 : cX8_order.data.toList.drop 1 = TX8_order_1 := dr1 DX8_order_0
theorem DX8_order_2 : cX8_order.data.toList.drop 2 = TX8_order_2 := dr1 DX8_order_1
theorem DX8_order_5 : cX8_order.data.toList.drop 5 = TX8_order_5 := dr3 DX8_order_2
theorem DX8_order_8 : cX8_order.data.toList.drop 8 = TX8_order_8 := dr3 DX8_order_5
theorem DX8_order_9 : cX8_order.data.toList.drop 9 = TX8_order_9 := dr1 DX8_order_8
theorem DX8_order_12 : cX8_order.data.toList.drop 12 = TX8_order_12 := dr3 DX8_order_9
theorem DX8_order_15 : cX8_order.data.toList.drop 15 = TX8_order_15 := dr3 DX8_order_12
theorem DX8_order_16 : cX8_order.data.toList.drop 16 = TX8_order_16 := dr1 DX8_order_15
theorem DX8_order_19 : cX8_order.data.toList.drop 19 = TX8_order_19 := dr3 DX8_order_16
theorem DX8_order_20 : cX8_order.data.toList.drop 20 = TX8_order_20 := dr1 DX8_order_19
theorem DX8_order_21 : cX8_order.data.toList.drop 21 = TX8_order_21 := dr1 DX8_order_20
theorem DX8_order_24 : cX8_order.data.toList.drop 24 = TX8_order_24 := dr3 DX8_order_21
theorem DX8_order_27 : cX8_order.data.toList.drop 27 = TX8_order_27 := dr3 DX8_order_24
theorem DX8_order_28 : cX8_order.data.toList.drop 28 = TX8_order_28 := dr1 DX8_order_27
theorem DX8_order_31 : cX8_order.data.toList.drop 31 = TX8_order_31 := dr3 DX8_order_28
theorem DX8_order_32 : cX8_order.data.toList.drop 32 = TX8_order_32 := dr1 DX8_order_31
theorem DX8_order_33 : cX8_order.data.toList.drop 33 = TX8_order_33 := dr1 DX8_order_32
theorem DX8_order_34 : cX8_order.data.toList.drop 34 = TX8_order_34 := dr1 DX8_order_33
theorem DX8_order_37 : cX8_order.data.toList.drop 37 = TX8_order_37 := dr3 DX8_order_34
theorem DX8_order_38 : cX8_order.data.toList.drop 38 = TX8_order_38 := dr1 DX8_order_37
theorem DX8_order_39 : cX8_order.data.toList.drop 39 = TX8_order_39 := dr1 DX8_order_38
theorem DX8_order_40 : cX8_order.data.toList.drop 40 = TX8_order_40 := dr1 DX8_order_39
theorem DX8_order_43 : cX8_order.data.toList.drop 43 = TX8_order_43 := dr3 DX8_order_40
theorem DX8_order_46 : cX8_order.data.toList.drop 46 = TX8_order_46 := dr3 DX8_order_43
theorem dX8_order_0 : decode cX8_order 0 = .ok (.aload_n 0, 1) := do_2a DX8_order_0
theorem dX8_order_1 : decode cX8_order 1 = .ok (.iload_n 1, 1) := do_1b DX8_order_1
theorem dX8_order_2 : decode cX8_order 2 = .ok (.invokestatic 145, 3) := do_b8 DX8_order_2
theorem dX8_order_5 : decode cX8_order 5 = .ok (.ifCond .ne 10, 3) := do_9a DX8_order_5 (by decide +kernel)
theorem dX8_order_8 : decode cX8_order 8 = .ok (.iload_n 2, 1) := do_1c DX8_order_8
theorem dX8_order_9 : decode cX8_order 9 = .ok (.invokestatic 145, 3) := do_b8 DX8_order_9
theorem dX8_order_12 : decode cX8_order 12 = .ok (.ifCond .eq 7, 3) := do_99 DX8_order_12 (by decide +kernel)
theorem dX8_order_15 : decode cX8_order 15 = .ok (.iconst 1, 1) := do_04 DX8_order_15
theorem dX8_order_16 : decode cX8_order 16 = .ok (.goto 4, 3) := do_a7 DX8_order_16 (by decide +kernel)
theorem dX8_order_19 : decode cX8_order 19 = .ok (.iconst 0, 1) := do_03 DX8_order_19
theorem dX8_order_20 : decode cX8_order 20 = .ok (.iconst 1, 1) := do_04 DX8_order_20
theorem dX8_order_21 : decode cX8_order 21 = .ok (.invokevirtual 149, 3) := do_b6 DX8_order_21
theorem dX8_order_24 : decode cX8_order 24 = .ok (.ifCond .eq 7, 3) := do_99 DX8_order_24 (by decide +kernel)
theorem dX8_order_27 : decode cX8_order 27 = .ok (.iconst 0, 1) := do_03 DX8_order_27
theorem dX8_order_28 : decode cX8_order 28 = .ok (.goto 18, 3) := do_a7 DX8_order_28 (by decide +kernel)
theorem dX8_order_31 : decode cX8_order 31 = .ok (.aload_n 0, 1) := do_2a DX8_order_31
theorem dX8_order_32 : decode cX8_order 32 = .ok (.iload_n 1, 1) := do_1b DX8_order_32
theorem dX8_order_33 : decode cX8_order 33 = .ok (.iload_n 3, 1) := do_1d DX8_order_33
theorem dX8_order_34 : decode cX8_order 34 = .ok (.invokevirtual 246, 3) := do_b6 DX8_order_34
theorem dX8_order_37 : decode cX8_order 37 = .ok (.aload_n 0, 1) := do_2a DX8_order_37
theorem dX8_order_38 : decode cX8_order 38 = .ok (.iload_n 2, 1) := do_1c DX8_order_38
theorem dX8_order_39 : decode cX8_order 39 = .ok (.iload_n 3, 1) := do_1d DX8_order_39
theorem dX8_order_40 : decode cX8_order 40 = .ok (.invokevirtual 246, 3) := do_b6 DX8_order_40
theorem dX8_order_43 : decode cX8_order 43 = .ok (.invokestatic 199, 3) := do_b8 DX8_order_43
theorem dX8_order_46 : decode cX8_order 46 = .ok (.ireturn, 1) := do_ac DX8_order_46
def TX8_isSame_75 : List UInt8 := []
def TX8_isSame_74 : List UInt8 := 172 :: TX8_isSame_75
def TX8_isSame_73 : List UInt8 := 3 :: TX8_isSame_74
def TX8_isSame_70 : List UInt8 := 167 :: 0 :: 4 :: TX8_isSame_73
def TX8_isSame_69 : List UInt8 := 4 :: TX8_isSame_70
def TX8_isSame_66 : List UInt8 := 153 :: 0 :: 7 :: TX8_isSame_69
def TX8_isSame_63 : List UInt8 := 184 :: 0 :: 228 :: TX8_isSame_66
def TX8_isSame_62 : List UInt8 := 50 :: TX8_isSame_63
def TX8_isSame_61 : List UInt8 := 28 :: TX8_isSame_62
def TX8_isSame_58 : List UInt8 := 180 :: 0 :: 28 :: TX8_isSame_61
def TX8_isSame_57 : List UInt8 := 42 :: TX8_isSame_58
def TX8_isSame_56 : List UInt8 := 50 :: TX8_isSame_57
def TX8_isSame_55 : List UInt8 := 28 :: TX8_isSame_56
def TX8_isSame_52 : List UInt8 := 180 :: 0 :: 24 :: TX8_isSame_55
def TX8_isSame_51 : List UInt8 := 42 :: TX8_isSame_52
def TX8_isSame_50 : List UInt8 := 46 :: TX8_isSame_51
def TX8_isSame_49 : List UInt8 := 28 :: TX8_isSame_50
def TX8_isSame_46 : List UInt8 := 180 :: 0 :: 16 :: TX8_isSame_49
def TX8_isSame_45 : List UInt8 := 42 :: TX8_isSame_46
def TX8_isSame_44 : List UInt8 := 50 :: TX8_isSame_45
def TX8_isSame_43 : List UInt8 := 27 :: TX8_isSame_44
def TX8_isSame_40 : List UInt8 := 180 :: 0 :: 28 :: TX8_isSame_43
def TX8_isSame_39 : List UInt8 := 42 :: TX8_isSame_40
def TX8_isSame_38 : List UInt8 := 50 :: TX8_isSame_39
def TX8_isSame_37 : List UInt8 := 27 :: TX8_isSame_38
def TX8_isSame_34 : List UInt8 := 180 :: 0 :: 24 :: TX8_isSame_37
def TX8_isSame_33 : List UInt8 := 42 :: TX8_isSame_34
def TX8_isSame_32 : List UInt8 := 46 :: TX8_isSame_33
def TX8_isSame_31 : List UInt8 := 27 :: TX8_isSame_32
def TX8_isSame_28 : List UInt8 := 180 :: 0 :: 16 :: TX8_isSame_31
def TX8_isSame_27 : List UInt8 := 42 :: TX8_isSame_28
def TX8_isSame_24 : List UInt8 := 154 :: 0 :: 49 :: TX8_isSame_27
def TX8_isSame_21 : List UInt8 := 182 :: 0 :: 149 :: TX8_isSame_24
def TX8_isSame_20 : List UInt8 := 4 :: TX8_isSame_21
def TX8_isSame_19 : List UInt8 := 3 :: TX8_isSame_20
def TX8_isSame_16 : List UInt8 := 167 :: 0 :: 4 :: TX8_isSame_19
def TX8_isSame_15 : List UInt8 := 4 :: TX8_isSame_16
def TX8_isSame_12 : List UInt8 := 153 :: 0 :: 7 :: TX8_isSame_15
def TX8_isSame_9 : List UInt8 := 184 :: 0 :: 145 :: TX8_isSame_12
def TX8_isSame_8 : List UInt8 := 28 :: TX8_isSame_9
def TX8_isSame_5 : List UInt8 := 154 :: 0 :: 10 :: TX8_isSame_8
def TX8_isSame_2 : List UInt8 := 184 :: 0 :: 145 :: TX8_isSame_5
def TX8_isSame_1 : List UInt8 := 27 :: TX8_isSame_2
def TX8_isSame_0 : List UInt8 := 42 :: TX8_isSame_1
theorem DX8_isSame_0 : cX8_isSame.data.toList.drop 0 = TX8_isSame_0 := by decide +kernel
theorem DX8_isSame_1 : cX8_isSame.data.toList.drop 1 = TX8_isSame_1 := dr1 DX8_isSame_0
theorem DX8_isSame_2 : cX8_isSame.data.toList.drop 2 = TX8_isSame_2 := dr1 DX8_isSame_1
theorem DX8_isSame_5 : cX8_isSame.data.toList.drop 5 = TX8_isSame_5 := dr3 DX8_isSame_2
theorem DX8_isSame_8 : cX8_isSame.data.toList.drop 8 = TX8_isSame_8 := dr3 DX8_isSame_5
theorem DX8_isSame_9 : cX8_isSame.data.toList.drop 9 = TX8_isSame_9 := dr1 DX8_isSame_8
theorem DX8_isSame_12 : cX8_isSame.data.toList.drop 12 = TX8_isSame_12 := dr3 DX8_isSame_9
theorem DX8_isSame_15 : cX8_isSame.data.toList.drop 15 = TX8_isSame_15 := dr3 DX8_isSame_12
theorem DX8_isSame_16 : cX8_isSame.data.toList.drop 16 = TX8_isSame_16 := dr1 DX8_isSame_15
theorem DX8_isSame_19 : cX8_isSame.data.toList.drop 19 = TX8_isSame_19 := dr3 DX8_isSame_16
theorem DX8_isSame_20 : cX8_isSame.data.toList.drop 20 = TX8_isSame_20 := dr1 DX8_isSame_19
theorem DX8_isSame_21 : cX8_isSame.data.toList.drop 21 = TX8_isSame_21 := dr1 DX8_isSame_20
theorem DX8_isSame_24 : cX8_isSame.data.toList.drop 24 = TX8_isSame_24 := dr3 DX8_isSame_21
theorem DX8_isSame_27 : cX8_isSame.data.toList.drop 27 = TX8_isSame_27 := dr3 DX8_isSame_24
theorem DX8_isSame_28 : cX8_isSame.data.toList.drop 28 = TX8_isSame_28 := dr1 DX8_isSame_27
theorem DX8_isSame_31 : cX8_isSame.data.toList.drop 31 = TX8_isSame_31 := dr3 DX8_isSame_28
theorem DX8_isSame_32 : cX8_isSame.data.toList.drop 32 = TX8_isSame_32 := dr1 DX8_isSame_31
theorem DX8_isSame_33 : cX8_isSame.data.toList.drop 33 = TX8_isSame_33 := dr1 DX8_isSame_32
theorem DX8_isSame_34 : cX8_isSame.data.toList.drop 34 = TX8_isSame_34 := dr1 DX8_isSame_33
theorem DX8_isSame_37 : cX8_isSame.data.toList.drop 37 = TX8_isSame_37 := dr3 DX8_isSame_34
theorem DX8_isSame_38 : cX8_isSame.data.toList.drop 38 = TX8_isSame_38 := dr1 DX8_isSame_37
theorem DX8_isSame_39 : cX8_isSame.data.toList.drop 39 = TX8_isSame_39 := dr1 DX8_isSame_38
theorem DX8_isSame_40 : cX8_isSame.data.toList.drop 40 = TX8_isSame_40 := dr1 DX8_isSame_39
theorem DX8_isSame_43 : cX8_isSame.data.toList.drop 43 = TX8_isSame_43 := dr3 DX8_isSame_40
theorem DX8_isSame_44 : cX8_isSame.data.toList.drop 44 = TX8_isSame_44 := dr1 DX8_isSame_43
theorem DX8_isSame_45 : cX8_isSame.data.toList.drop 45 = TX8_isSame_45 := dr1 DX8_isSame_44
theorem DX8_isSame_46 : cX8_isSame.data.toList.drop 46 = TX8_isSame_46 := dr1 DX8_isSame_45
theorem DX8_isSame_49 : cX8_isSame.data.toList.drop 49 = TX8_isSame_49 := dr3 DX8_isSame_46
theorem DX8_isSame_50 : cX8_isSame.data.toList.drop 50 = TX8_isSame_50 := dr1 DX8_isSame_49
theorem DX8_isSame_51 : cX8_isSame.data.toList.drop 51 = TX8_isSame_51 := dr1 DX8_isSame_50
theorem DX8_isSame_52 : cX8_isSame.data.toList.drop 52 = TX8_isSame_52 := dr1 DX8_isSame_51
theorem DX8_isSame_55 : cX8_isSame.data.toList.drop 55 = TX8_isSame_55 := dr3 DX8_isSame_52
theorem DX8_isSame_56 : cX8_isSame.data.toList.drop 56 = TX8_isSame_56 := dr1 DX8_isSame_55
theorem DX8_isSame_57 : cX8_isSame.data.toList.drop 57 = TX8_isSame_57 := dr1 DX8_isSame_56
theorem DX8_isSame_58 : cX8_isSame.data.toList.drop 58 = TX8_isSame_58 := dr1 DX8_isSame_57
theorem DX8_isSame_61 : cX8_isSame.data.toList.drop 61 = TX8_isSame_61 := dr3 DX8_isSame_58
theorem DX8_isSame_62 : cX8_isSame.data.toList.drop 62 = TX8_isSame_62 := dr1 DX8_isSame_61
theorem DX8_isSame_63 : cX8_isSame.data.toList.drop 63 = TX8_isSame_63 := dr1 DX8_isSame_62
theorem DX8_isSame_66 : cX8_isSame.data.toList.drop 66 = TX8_isSame_66 := dr3 DX8_isSame_63
theorem DX8_isSame_69 : cX8_isSame.data.toList.drop 69 = TX8_isSame_69 := dr3 DX8_isSame_66
theorem DX8_isSame_70 : cX8_isSame.data.toList.drop 70 = TX8_isSame_70 := dr1 DX8_isSame_69
theorem DX8_isSame_73 : cX8_isSame.data.toList.drop 73 = TX8_isSame_73 := dr3 DX8_isSame_70
theorem DX8_isSame_74 : cX8_isSame.data.toList.drop 74 = TX8_isSame_74 := dr1 DX8_isSame_73
theorem dX8_isSame_0 : decode cX8_isSame 0 = .ok (.aload_n 0, 1) := do_2a DX8_isSame_0
theorem dX8_isSame_1 : decode cX8_isSame 1 = .ok (.iload_n 1, 1) := do_1b DX8_isSame_1
theorem dX8_isSame_2 : decode cX8_isSame 2 = .ok (.invokestatic 145, 3) := do_b8 DX8_isSame_2
theorem dX8_isSame_5 : decode cX8_isSame 5 = .ok (.ifCond .ne 10, 3) := do_9a DX8_isSame_5 (by decide +kernel)
theorem dX8_isSame_8 : decode cX8_isSame 8 = .ok (.iload_n 2, 1) := do_1c DX8_isSame_8
theorem dX8_isSame_9 : decode cX8_isSame 9 = .ok (.invokestatic 145, 3) := do_b8 DX8_isSame_9
theorem dX8_isSame_12 : decode cX8_isSame 12 = .ok (.ifCond .eq 7, 3) := do_99 DX8_isSame_12 (by decide +kernel)
theorem dX8_isSame_15 : decode cX8_isSame 15 = .ok (.iconst 1, 1) := do_04 DX8_isSame_15
theorem dX8_isSame_16 : decode cX8_isSame 16 = .ok (.goto 4, 3) := do_a7 DX8_isSame_16 (by decide +kernel)
theorem dX8_isSame_19 : decode cX8_isSame 19 = .ok (.iconst 0, 1) := do_03 DX8_isSame_19
theorem dX8_isSame_20 : decode cX8_isSame 20 = .ok (.iconst 1, 1) := do_04 DX8_isSame_20
theorem dX8_isSame_21 : decode cX8_isSame 21 = .ok (.invokevirtual 149, 3) := do_b6 DX8_isSame_21
theorem dX8_isSame_24 : decode cX8_isSame 24 = .ok (.ifCond .ne 49, 3) := do_9a DX8_isSame_24 (by decide +kernel)
theorem dX8_isSame_27 : decode cX8_isSame 27 = .ok (.aload_n 0, 1) := do_2a DX8_isSame_27
theorem dX8_isSame_28 : decode cX8_isSame 28 = .ok (.getfield 16, 3) := do_b4 DX8_isSame_28
theorem dX8_isSame_31 : decode cX8_isSame 31 = .ok (.iload_n 1, 1) := do_1b DX8_isSame_31
theorem dX8_isSame_32 : decode cX8_isSame 32 = .ok (.iaload, 1) := do_2e DX8_isSame_32
theorem dX8_isSame_33 : decode cX8_isSame 33 = .ok (.aload_n 0, 1) := do_2a DX8_isSame_33
theorem dX8_isSame_34 : decode cX8_isSame 34 = .ok (.getfield 24, 3) := do_b4 DX8_isSame_34
theorem dX8_isSame_37 : decode cX8_isSame 37 = .ok (.iload_n 1, 1) := do_1b DX8_isSame_37
theorem dX8_isSame_38 : decode cX8_isSame 38 = .ok (.aaload, 1) := do_32 DX8_isSame_38
theorem dX8_isSame_39 : decode cX8_isSame 39 = .ok (.aload_n 0, 1) := do_2a DX8_isSame_39
theorem dX8_isSame_40 : decode cX8_isSame 40 = .ok (.getfield 28, 3) := do_b4 DX8_isSame_40
theorem dX8_isSame_43 : decode cX8_isSame 43 = .ok (.iload_n 1, 1) := do_1b DX8_isSame_43
theorem dX8_isSame_44 : decode cX8_isSame 44 = .ok (.aaload, 1) := do_32 DX8_isSame_44
theorem dX8_isSame_45 : decode cX8_isSame 45 = .ok (.aload_n 0, 1) := do_2a DX8_isSame_45
theorem dX8_isSame_46 : decode cX8_isSame 46 = .ok (.getfield 16, 3) := do_b4 DX8_isSame_46
theorem dX8_isSame_49 : decode cX8_isSame 49 = .ok (.iload_n 2, 1) := do_1c DX8_isSame_49
theorem dX8_isSame_50 : decode cX8_isSame 50 = .ok (.iaload, 1) := do_2e DX8_isSame_50
theorem dX8_isSame_51 : decode cX8_isSame 51 = .ok (.aload_n 0, 1) := do_2a DX8_isSame_51
theorem dX8_isSame_52 : decode cX8_isSame 52 = .ok (.getfield 24, 3) := do_b4 DX8_isSame_52
theorem dX8_isSame_55 : decode cX8_isSame 55 = .ok (.iload_n 2, 1) := do_1c DX8_isSame_55
theorem dX8_isSame_56 : decode cX8_isSame 56 = .ok (.aaload, 1) := do_32 DX8_isSame_56
theorem dX8_isSame_57 : decode cX8_isSame 57 = .ok (.aload_n 0, 1) := do_2a DX8_isSame_57
theorem dX8_isSame_58 : decode cX8_isSame 58 = .ok (.getfield 28, 3) := do_b4 DX8_isSame_58
theorem dX8_isSame_61 : decode cX8_isSame 61 = .ok (.iload_n 2, 1) := do_1c DX8_isSame_61
theorem dX8_isSame_62 : decode cX8_isSame 62 = .ok (.aaload, 1) := do_32 DX8_isSame_62
theorem dX8_isSame_63 : decode cX8_isSame 63 = .ok (.invokestatic 228, 3) := do_b8 DX8_isSame_63
theorem dX8_isSame_66 : decode cX8_isSame 66 = .ok (.ifCond .eq 7, 3) := do_99 DX8_isSame_66 (by decide +kernel)
theorem dX8_isSame_69 : decode cX8_isSame 69 = .ok (.iconst 1, 1) := do_04 DX8_isSame_69
theorem dX8_isSame_70 : decode cX8_isSame 70 = .ok (.goto 4, 3) := do_a7 DX8_isSame_70 (by decide +kernel)
theorem dX8_isSame_73 : decode cX8_isSame 73 = .ok (.iconst 0, 1) := do_03 DX8_isSame_73
theorem dX8_isSame_74 : decode cX8_isSame 74 = .ok (.ireturn, 1) := do_ac DX8_isSame_74
def TX8_extreme_65 : List UInt8 := []
def TX8_extreme_64 : List UInt8 := 176 :: TX8_extreme_65
def TX8_extreme_61 : List UInt8 := 184 :: 0 :: 171 :: TX8_extreme_64
def TX8_extreme_59 : List UInt8 := 16 :: 10 :: TX8_extreme_61
def TX8_extreme_58 : List UInt8 := 45 :: TX8_extreme_59
def TX8_extreme_55 : List UInt8 := 167 :: 255 :: 216 :: TX8_extreme_58
def TX8_extreme_52 : List UInt8 := 132 :: 4 :: 1 :: TX8_extreme_55
def TX8_extreme_51 : List UInt8 := 78 :: TX8_extreme_52
def TX8_extreme_48 : List UInt8 := 182 :: 0 :: 246 :: TX8_extreme_51
def TX8_extreme_47 : List UInt8 := 27 :: TX8_extreme_48
def TX8_extreme_45 : List UInt8 := 21 :: 4 :: TX8_extreme_47
def TX8_extreme_44 : List UInt8 := 42 :: TX8_extreme_45
def TX8_extreme_41 : List UInt8 := 160 :: 0 :: 11 :: TX8_extreme_44
def TX8_extreme_40 : List UInt8 := 2 :: TX8_extreme_41
def TX8_extreme_37 : List UInt8 := 167 :: 0 :: 4 :: TX8_extreme_40
def TX8_extreme_36 : List UInt8 := 4 :: TX8_extreme_37
def TX8_extreme_33 : List UInt8 := 153 :: 0 :: 7 :: TX8_extreme_36
def TX8_extreme_32 : List UInt8 := 28 :: TX8_extreme_33
def TX8_extreme_29 : List UInt8 := 184 :: 0 :: 199 :: TX8_extreme_32
def TX8_extreme_28 : List UInt8 := 45 :: TX8_extreme_29
def TX8_extreme_25 : List UInt8 := 182 :: 0 :: 246 :: TX8_extreme_28
def TX8_extreme_24 : List UInt8 := 27 :: TX8_extreme_25
def TX8_extreme_22 : List UInt8 := 21 :: 4 :: TX8_extreme_24
def TX8_extreme_21 : List UInt8 := 42 :: TX8_extreme_22
def TX8_extreme_18 : List UInt8 := 162 :: 0 :: 40 :: TX8_extreme_21
def TX8_extreme_17 : List UInt8 := 6 :: TX8_extreme_18
def TX8_extreme_15 : List UInt8 := 21 :: 4 :: TX8_extreme_17
def TX8_extreme_13 : List UInt8 := 54 :: 4 :: TX8_extreme_15
def TX8_extreme_12 : List UInt8 := 4 :: TX8_extreme_13
def TX8_extreme_11 : List UInt8 := 78 :: TX8_extreme_12
def TX8_extreme_8 : List UInt8 := 182 :: 0 :: 246 :: TX8_extreme_11
def TX8_extreme_7 : List UInt8 := 27 :: TX8_extreme_8
def TX8_extreme_6 : List UInt8 := 3 :: TX8_extreme_7
def TX8_extreme_5 : List UInt8 := 42 :: TX8_extreme_6
def TX8_extreme_2 : List UInt8 := 181 :: 0 :: 41 :: TX8_extreme_5
def TX8_extreme_1 : List UInt8 := 3 :: TX8_extreme_2
def TX8_extreme_0 : List UInt8 := 42 :: TX8_extreme_1
theorem DX8_extreme_0 : cX8_extreme.data.toList.drop 0 = TX8_extreme_0 := by decide +kernel
theorem DX8_extreme_1 : cX8_extreme.data.toList.drop 1 = TX8_extreme_1 := dr1 DX8_extreme_0
theorem DX8_extreme_2 : cX8_extreme.data.toList.drop 2 = TX8_extreme_2 := dr1 DX8_extreme_1
theorem DX8_extreme_5 : cX8_extreme.data.toList.drop 5 = TX8_extreme_5 := dr3 DX8_extreme_2
theorem DX8_extreme_6 : cX8_extreme.data.toList.drop 6 = TX8_extreme_6 := dr1 DX8_extreme_5
theorem DX8_extreme_7 : cX8_extreme.data.toList.drop 7 = TX8_extreme_7 := dr1 DX8_extreme_6
theorem DX8_extreme_8 : cX8_extreme.data.toList.drop 8 = TX8_extreme_8 := dr1 DX8_extreme_7
theorem DX8_extreme_11 : cX8_extreme.data.toList.drop 11 = TX8_extreme_11 := dr3 DX8_extreme_8
theorem DX8_extreme_12 : cX8_extreme.data.toList.drop 12 = TX8_extreme_12 := dr1 DX8_extreme_11
theorem DX8_extreme_13 : cX8_extreme.data.toList.drop 13 = TX8_extreme_13 := dr1 DX8_extreme_12
theorem DX8_extreme_15 : cX8_extreme.data.toList.drop 15 = TX8_extreme_15 := dr2 DX8_extreme_13
theorem DX8_extreme_17 : cX8_extreme.data.toList.drop 17 = TX8_extreme_17 := dr2 DX8_extreme_15
theorem DX8_extreme_18 : cX8_extreme.data.toList.drop 18 = TX8_extreme_18 := dr1 DX8_extreme_17
theorem DX8_extreme_21 : cX8_extreme.data.toList.drop 21 = TX8_extreme_21 := dr3 DX8_extreme_18
theorem DX8_extreme_22 : cX8_extreme.data.toList.drop 22 = TX8_extreme_22 := dr1 DX8_extreme_21
theorem DX8_extreme_24 : cX8_extreme.data.toList.drop 24 = TX8_extreme_24 := dr2 DX8_extreme_22
theorem DX8_extreme_25 : cX8_extreme.data.toList.drop 25 = TX8_extreme_25 := dr1 DX8_extreme_24
theorem DX8_extreme_28 : cX8_extreme.data.toList.drop 28 = TX8_extreme_28 := dr3 DX8_extreme_25
theorem DX8_extreme_29 : cX8_extreme.data.toList.drop 29 = TX8_extreme_29 := dr1 DX8_extreme_28
theorem DX8_extreme_32 : cX8_extreme.data.toList.drop 32 = TX8_extreme_32 := dr3 DX8_extreme_29
theorem DX8_extreme_33 : cX8_extreme.data.toList.drop 33 = TX8_extreme_33 := dr1 DX8_extreme_32
theorem DX8_extreme_36 : cX8_extreme.data.toList.drop 36 = TX8_extreme_36 := dr3 DX8_extreme_33
theorem DX8_extreme_37 : cX8_extreme.data.toList.drop 37 = TX8_extreme_37 := dr1 DX8_extreme_36
theorem DX8_extreme_40 : cX8_extreme.data.toList.drop 40 = TX8_extreme_40 := dr3 DX8_extreme_37
theorem DX8_extreme_41 : cX8_extreme.data.toList.drop 41 = TX8_extreme_41 := dr1 DX8_extreme_40
theorem DX8_extreme_44 : cX8_extreme.data.toList.drop 44 = TX8_extreme_44 := dr3 DX8_extreme_41
theorem DX8_extreme_45 : cX8_extreme.data.toList.drop 45 = TX8_extreme_45 := dr1 DX8_extreme_44
theorem DX8_extreme_47 : cX8_extreme.data.toList.drop 47 = TX8_extreme_47 := dr2 DX8_extreme_45
theorem DX8_extreme_48 : cX8_extreme.data.toList.drop 48 = TX8_extreme_48 := dr1 DX8_extreme_47
theorem DX8_extreme_51 : cX8_extreme.data.toList.drop 51 = TX8_extreme_51 := dr3 DX8_extreme_48
theorem DX8_extreme_52 : cX8_extreme.data.toList.drop 52 = TX8_extreme_52 := dr1 DX8_extreme_51
theorem DX8_extreme_55 : cX8_extreme.data.toList.drop 55 = TX8_extreme_55 := dr3 DX8_extreme_52
theorem DX8_extreme_58 : cX8_extreme.data.toList.drop 58 = TX8_extreme_58 := dr3 DX8_extreme_55
theorem DX8_extreme_59 : cX8_extreme.data.toList.drop 59 = TX8_extreme_59 := dr1 DX8_extreme_58
theorem DX8_extreme_61 : cX8_extreme.data.toList.drop 61 = TX8_extreme_61 := dr2 DX8_extreme_59
theorem DX8_extreme_64 : cX8_extreme.data.toList.drop 64 = TX8_extreme_64 := dr3 DX8_extreme_61
theorem dX8_extreme_0 : decode cX8_extreme 0 = .ok (.aload_n 0, 1) := do_2a DX8_extreme_0
theorem dX8_extreme_1 : decode cX8_extreme 1 = .ok (.iconst 0, 1) := do_03 DX8_extreme_1
theorem dX8_extreme_2 : decode cX8_extreme 2 = .ok (.putfield 41, 3) := do_b5 DX8_extreme_2
theorem dX8_extreme_5 : decode cX8_extreme 5 = .ok (.aload_n 0, 1) := do_2a DX8_extreme_5
theorem dX8_extreme_6 : decode cX8_extreme 6 = .ok (.iconst 0, 1) := do_03 DX8_extreme_6
theorem dX8_extreme_7 : decode cX8_extreme 7 = .ok (.iload_n 1, 1) := do_1b DX8_extreme_7
theorem dX8_extreme_8 : decode cX8_extreme 8 = .ok (.invokevirtual 246, 3) := do_b6 DX8_extreme_8
theorem dX8_extreme_11 : decode cX8_extreme 11 = .ok (.astore_n 3, 1) := do_4e DX8_extreme_11
theorem dX8_extreme_12 : decode cX8_extreme 12 = .ok (.iconst 1, 1) := do_04 DX8_extreme_12
theorem dX8_extreme_13 : decode cX8_extreme 13 = .ok (.istore 4, 2) := do_36 DX8_extreme_13
theorem dX8_extreme_15 : decode cX8_extreme 15 = .ok (.iload 4, 2) := do_15 DX8_extreme_15
theorem dX8_extreme_17 : decode cX8_extreme 17 = .ok (.iconst 3, 1) := do_06 DX8_extreme_17
theorem dX8_extreme_18 : decode cX8_extreme 18 = .ok (.if_icmp .ge 40, 3) := do_a2 DX8_extreme_18 (by decide +kernel)
theorem dX8_extreme_21 : decode cX8_extreme 21 = .ok (.aload_n 0, 1) := do_2a DX8_extreme_21
theorem dX8_extreme_22 : decode cX8_extreme 22 = .ok (.iload 4, 2) := do_15 DX8_extreme_22
theorem dX8_extreme_24 : decode cX8_extreme 24 = .ok (.iload_n 1, 1) := do_1b DX8_extreme_24
theorem dX8_extreme_25 : decode cX8_extreme 25 = .ok (.invokevirtual 246, 3) := do_b6 DX8_extreme_25
theorem dX8_extreme_28 : decode cX8_extreme 28 = .ok (.aload_n 3, 1) := do_2d DX8_extreme_28
theorem dX8_extreme_29 : decode cX8_extreme 29 = .ok (.invokestatic 199, 3) := do_b8 DX8_extreme_29
theorem dX8_extreme_32 : decode cX8_extreme 32 = .ok (.iload_n 2, 1) := do_1c DX8_extreme_32
theorem dX8_extreme_33 : decode cX8_extreme 33 = .ok (.ifCond .eq 7, 3) := do_99 DX8_extreme_33 (by decide +kernel)
theorem dX8_extreme_36 : decode cX8_extreme 36 = .ok (.iconst 1, 1) := do_04 DX8_extreme_36
theorem dX8_extreme_37 : decode cX8_extreme 37 = .ok (.goto 4, 3) := do_a7 DX8_extreme_37 (by decide +kernel)
theorem dX8_extreme_40 : decode cX8_extreme 40 = .ok (.iconst (-1), 1) := do_02 DX8_extreme_40
theorem dX8_extreme_41 : decode cX8_extreme 41 = .ok (.if_icmp .ne 11, 3) := do_a0 DX8_extreme_41 (by decide +kernel)
theorem dX8_extreme_44 : decode cX8_extreme 44 = .ok (.aload_n 0, 1) := do_2a DX8_extreme_44
theorem dX8_extreme_45 : decode cX8_extreme 45 = .ok (.iload 4, 2) := do_15 DX8_extreme_45
theorem dX8_extreme_47 : decode cX8_extreme 47 = .ok (.iload_n 1, 1) := do_1b DX8_extreme_47
theorem dX8_extreme_48 : decode cX8_extreme 48 = .ok (.invokevirtual 246, 3) := do_b6 DX8_extreme_48
theorem dX8_extreme_51 : decode cX8_extreme 51 = .ok (.astore_n 3, 1) := do_4e DX8_extreme_51
theorem dX8_extreme_52 : decode cX8_extreme 52 = .ok (.iinc 4 1, 3) := do_84 DX8_extreme_52
theorem dX8_extreme_55 : decode cX8_extreme 55 = .ok (.goto (-40), 3) := do_a7 DX8_extreme_55 (by decide +kernel)
theorem dX8_extreme_58 : decode cX8_extreme 58 = .ok (.aload_n 3, 1) := do_2d DX8_extreme_58
theorem dX8_extreme_59 : decode cX8_extreme 59 = .ok (.bipush 10, 2) := do_10 DX8_extreme_59 (by decide +kernel)
theorem dX8_extreme_61 : decode cX8_extreme 61 = .ok (.invokestatic 171, 3) := do_b8 DX8_extreme_61
theorem dX8_extreme_64 : decode cX8_extreme 64 = .ok (.areturn, 1) := do_b0 DX8_extreme_64
def TX8_powered_37 : List UInt8 := []
def TX8_powered_36 : List UInt8 := 172 :: TX8_powered_37
def TX8_powered_34 : List UInt8 := 21 :: 4 :: TX8_powered_36
def TX8_powered_31 : List UInt8 := 167 :: 255 :: 239 :: TX8_powered_34
def TX8_powered_28 : List UInt8 := 132 :: 5 :: 1 :: TX8_powered_31
def TX8_powered_26 : List UInt8 := 54 :: 4 :: TX8_powered_28
def TX8_powered_25 : List UInt8 := 112 :: TX8_powered_26
def TX8_powered_24 : List UInt8 := 28 :: TX8_powered_25
def TX8_powered_23 : List UInt8 := 104 :: TX8_powered_24
def TX8_powered_22 : List UInt8 := 29 :: TX8_powered_23
def TX8_powered_20 : List UInt8 := 21 :: 4 :: TX8_powered_22
def TX8_powered_17 : List UInt8 := 162 :: 0 :: 17 :: TX8_powered_20
def TX8_powered_16 : List UInt8 := 27 :: TX8_powered_17
def TX8_powered_14 : List UInt8 := 21 :: 5 :: TX8_powered_16
def TX8_powered_12 : List UInt8 := 54 :: 5 :: TX8_powered_14
def TX8_powered_11 : List UInt8 := 3 :: TX8_powered_12
def TX8_powered_9 : List UInt8 := 54 :: 4 :: TX8_powered_11
def TX8_powered_8 : List UInt8 := 4 :: TX8_powered_9
def TX8_powered_7 : List UInt8 := 62 :: TX8_powered_8
def TX8_powered_6 : List UInt8 := 112 :: TX8_powered_7
def TX8_powered_5 : List UInt8 := 28 :: TX8_powered_6
def TX8_powered_4 : List UInt8 := 96 :: TX8_powered_5
def TX8_powered_3 : List UInt8 := 28 :: TX8_powered_4
def TX8_powered_2 : List UInt8 := 112 :: TX8_powered_3
def TX8_powered_1 : List UInt8 := 28 :: TX8_powered_2
def TX8_powered_0 : List UInt8 := 26 :: TX8_powered_1
theorem DX8_powered_0 : cX8_powered.data.toList.drop 0 = TX8_powered_0 := by decide +kernel
theorem DX8_powered_1 : cX8_powered.data.toList.drop 1 = TX8_powered_1 := dr1 DX8_powered_0
theorem DX8_powered_2 : cX8_powered.data.toList.drop 2 = TX8_powered_2 := dr1 DX8_powered_1
theorem DX8_powered_3 : cX8_powered.data.toList.drop 3 = TX8_powered_3 := dr1 DX8_powered_2
theorem DX8_powered_4 : cX8_powered.data.toList.drop 4 = TX8_powered_4 := dr1 DX8_powered_3
theorem DX8_powered_5 : cX8_powered.data.toList.drop 5 = TX8_powered_5 := dr1 DX8_powered_4
theorem DX8_powered_6 : cX8_powered.data.toList.drop 6 = TX8_powered_6 := dr1 DX8_powered_5
theorem DX8_powered_7 : cX8_powered.data.toList.drop 7 = TX8_powered_7 := dr1 DX8_powered_6
theorem DX8_powered_8 : cX8_powered.data.toList.drop 8 = TX8_powered_8 := dr1 DX8_powered_7
theorem DX8_powered_9 : cX8_powered.data.toList.drop 9 = TX8_powered_9 := dr1 DX8_powered_8
theorem DX8_powered_11 : cX8_powered.data.toList.drop 11 = TX8_powered_11 := dr2 DX8_powered_9
theorem DX8_powered_12 : cX8_powered.data.toList.drop 12 = TX8_powered_12 := dr1 DX8_powered_11
theorem DX8_powered_14 : cX8_powered.data.toList.drop 14 = TX8_powered_14 := dr2 DX8_powered_12
theorem DX8_powered_16 : cX8_powered.data.toList.drop 16 = TX8_powered_16 := dr2 DX8_powered_14
theorem DX8_powered_17 : cX8_powered.data.toList.drop 17 = TX8_powered_17 := dr1 DX8_powered_16
theorem DX8_powered_20 : cX8_powered.data.toList.drop 20 = TX8_powered_20 := dr3 DX8_powered_17
theorem DX8_powered_22 : cX8_powered.data.toList.drop 22 = TX8_powered_22 := dr2 DX8_powered_20
theorem DX8_powered_23 : cX8_powered.data.toList.drop 23 = TX8_powered_23 := dr1 DX8_powered_22
theorem DX8_powered_24 : cX8_powered.data.toList.drop 24 = TX8_powered_24 := dr1 DX8_powered_23
theorem DX8_powered_25 : cX8_powered.data.toList.drop 25 = TX8_powered_25 := dr1 DX8_powered_24
theorem DX8_powered_26 : cX8_powered.data.toList.drop 26 = TX8_powered_26 := dr1 DX8_powered_25
theorem DX8_powered_28 : cX8_powered.data.toList.drop 28 = TX8_powered_28 := dr2 DX8_powered_26
theorem DX8_powered_31 : cX8_powered.data.toList.drop 31 = TX8_powered_31 := dr3 DX8_powered_28
theorem DX8_powered_34 : cX8_powered.data.toList.drop 34 = TX8_powered_34 := dr3 DX8_powered_31
theorem DX8_powered_36 : cX8_powered.data.toList.drop 36 = TX8_powered_36 := dr2 DX8_powered_34
theorem dX8_powered_0 : decode cX8_powered 0 = .ok (.iload_n 0, 1) := do_1a DX8_powered_0
theorem dX8_powered_1 : decode cX8_powered 1 = .ok (.iload_n 2, 1) := do_1c DX8_powered_1
theorem dX8_powered_2 : decode cX8_powered 2 = .ok (.irem, 1) := do_70 DX8_powered_2
theorem dX8_powered_3 : decode cX8_powered 3 = .ok (.iload_n 2, 1) := do_1c DX8_powered_3
theorem dX8_powered_4 : decode cX8_powered 4 = .ok (.iadd, 1) := do_60 DX8_powered_4
theorem dX8_powered_5 : decode cX8_powered 5 = .ok (.iload_n 2, 1) := do_1c DX8_powered_5
theorem dX8_powered_6 : decode cX8_powered 6 = .ok (.irem, 1) := do_70 DX8_powered_6
theorem dX8_powered_7 : decode cX8_powered 7 = .ok (.istore_n 3, 1) := do_3e DX8_powered_7
theorem dX8_powered_8 : decode cX8_powered 8 = .ok (.iconst 1, 1) := do_04 DX8_powered_8
theorem dX8_powered_9 : decode cX8_powered 9 = .ok (.istore 4, 2) := do_36 DX8_powered_9
theorem dX8_powered_11 : decode cX8_powered 11 = .ok (.iconst 0, 1) := do_03 DX8_powered_11
theorem dX8_powered_12 : decode cX8_powered 12 = .ok (.istore 5, 2) := do_36 DX8_powered_12
theorem dX8_powered_14 : decode cX8_powered 14 = .ok (.iload 5, 2) := do_15 DX8_powered_14
theorem dX8_powered_16 : decode cX8_powered 16 = .ok (.iload_n 1, 1) := do_1b DX8_powered_16
theorem dX8_powered_17 : decode cX8_powered 17 = .ok (.if_icmp .ge 17, 3) := do_a2 DX8_powered_17 (by decide +kernel)
theorem dX8_powered_20 : decode cX8_powered 20 = .ok (.iload 4, 2) := do_15 DX8_powered_20
theorem dX8_powered_22 : decode cX8_powered 22 = .ok (.iload_n 3, 1) := do_1d DX8_powered_22
theorem dX8_powered_23 : decode cX8_powered 23 = .ok (.imul, 1) := do_68 DX8_powered_23
theorem dX8_powered_24 : decode cX8_powered 24 = .ok (.iload_n 2, 1) := do_1c DX8_powered_24
theorem dX8_powered_25 : decode cX8_powered 25 = .ok (.irem, 1) := do_70 DX8_powered_25
theorem dX8_powered_26 : decode cX8_powered 26 = .ok (.istore 4, 2) := do_36 DX8_powered_26
theorem dX8_powered_28 : decode cX8_powered 28 = .ok (.iinc 5 1, 3) := do_84 DX8_powered_28
theorem dX8_powered_31 : decode cX8_powered 31 = .ok (.goto (-17), 3) := do_a7 DX8_powered_31 (by decide +kernel)
theorem dX8_powered_34 : decode cX8_powered 34 = .ok (.iload 4, 2) := do_15 DX8_powered_34
theorem dX8_powered_36 : decode cX8_powered 36 = .ok (.ireturn, 1) := do_ac DX8_powered_36
def TX8_isNumberPrime_34 : List UInt8 := []
def TX8_isNumberPrime_33 : List UInt8 := 172 :: TX8_isNumberPrime_34
def TX8_isNumberPrime_32 : List UInt8 := 3 :: TX8_isNumberPrime_33
def TX8_isNumberPrime_29 : List UInt8 := 167 :: 0 :: 4 :: TX8_isNumberPrime_32
def TX8_isNumberPrime_28 : List UInt8 := 4 :: TX8_isNumberPrime_29
def TX8_isNumberPrime_25 : List UInt8 := 164 :: 0 :: 7 :: TX8_isNumberPrime_28
def TX8_isNumberPrime_24 : List UInt8 := 4 :: TX8_isNumberPrime_25
def TX8_isNumberPrime_23 : List UInt8 := 26 :: TX8_isNumberPrime_24
def TX8_isNumberPrime_20 : List UInt8 := 167 :: 255 :: 238 :: TX8_isNumberPrime_23
def TX8_isNumberPrime_17 : List UInt8 := 132 :: 1 :: 1 :: TX8_isNumberPrime_20
def TX8_isNumberPrime_16 : List UInt8 := 172 :: TX8_isNumberPrime_17
def TX8_isNumberPrime_15 : List UInt8 := 3 :: TX8_isNumberPrime_16
def TX8_isNumberPrime_12 : List UInt8 := 154 :: 0 :: 5 :: TX8_isNumberPrime_15
def TX8_isNumberPrime_11 : List UInt8 := 112 :: TX8_isNumberPrime_12
def TX8_isNumberPrime_10 : List UInt8 := 27 :: TX8_isNumberPrime_11
def TX8_isNumberPrime_9 : List UInt8 := 26 :: TX8_isNumberPrime_10
def TX8_isNumberPrime_6 : List UInt8 := 163 :: 0 :: 17 :: TX8_isNumberPrime_9
def TX8_isNumberPrime_5 : List UInt8 := 26 :: TX8_isNumberPrime_6
def TX8_isNumberPrime_4 : List UInt8 := 104 :: TX8_isNumberPrime_5
def TX8_isNumberPrime_3 : List UInt8 := 27 :: TX8_isNumberPrime_4
def TX8_isNumberPrime_2 : List UInt8 := 27 :: TX8_isNumberPrime_3
def TX8_isNumberPrime_1 : List UInt8 := 60 :: TX8_isNumberPrime_2
def TX8_isNumberPrime_0 : List UInt8 := 5 :: TX8_isNumberPrime_1
theorem DX8_isNumberPrime_0 : cX8_isNumberPrime.data.toList.drop 0 = TX8_isNumberPrime_0 := by decide +kernel
theorem DX8_isNumberPrime_1 : cX8_isNumberPrime.data.toList.drop 1 = TX8_isNumberPrime_1 := dr1 DX8_isNumberPrime_0
theorem DX8_isNumberPrime_2 : cX8_isNumberPrime.data.toList.drop 2 = TX8_isNumberPrime_2 := dr1 DX8_isNumberPrime_1
theorem DX8_isNumberPrime_3 : cX8_isNumberPrime.data.toList.drop 3 = TX8_isNumberPrime_3 := dr1 DX8_isNumberPrime_2
theorem DX8_isNumberPrime_4 : cX8_isNumberPrime.data.toList.drop 4 = TX8_isNumberPrime_4 := dr1 DX8_isNumberPrime_3
theorem DX8_isNumberPrime_5 : cX8_isNumberPrime.data.toList.drop 5 = TX8_isNumberPrime_5 := dr1 DX8_isNumberPrime_4
theorem DX8_isNumberPrime_6 : cX8_isNumberPrime.data.toList.drop 6 = TX8_isNumberPrime_6 := dr1 DX8_isNumberPrime_5
theorem DX8_isNumberPrime_9 : cX8_isNumberPrime.data.toList.drop 9 = TX8_isNumberPrime_9 := dr3 DX8_isNumberPrime_6
theorem DX8_isNumberPrime_10 : cX8_isNumberPrime.data.toList.drop 10 = TX8_isNumberPrime_10 := dr1 DX8_isNumberPrime_9
theorem DX8_isNumberPrime_11 : cX8_isNumberPrime.data.toList.drop 11 = TX8_isNumberPrime_11 := dr1 DX8_isNumberPrime_10
theorem DX8_isNumberPrime_12 : cX8_isNumberPrime.data.toList.drop 12 = TX8_isNumberPrime_12 := dr1 DX8_isNumberPrime_11
theorem DX8_isNumberPrime_15 : cX8_isNumberPrime.data.toList.drop 15 = TX8_isNumberPrime_15 := dr3 DX8_isNumberPrime_12
theorem DX8_isNumberPrime_16 : cX8_isNumberPrime.data.toList.drop 16 = TX8_isNumberPrime_16 := dr1 DX8_isNumberPrime_15
theorem DX8_isNumberPrime_17 : cX8_isNumberPrime.data.toList.drop 17 = TX8_isNumberPrime_17 := dr1 DX8_isNumberPrime_16
theorem DX8_isNumberPrime_20 : cX8_isNumberPrime.data.toList.drop 20 = TX8_isNumberPrime_20 := dr3 DX8_isNumberPrime_17
theorem DX8_isNumberPrime_23 : cX8_isNumberPrime.data.toList.drop 23 = TX8_isNumberPrime_23 := dr3 DX8_isNumberPrime_20
theorem DX8_isNumberPrime_24 : cX8_isNumberPrime.data.toList.drop 24 = TX8_isNumberPrime_24 := dr1 DX8_isNumberPrime_23
theorem DX8_isNumberPrime_25 : cX8_isNumberPrime.data.toList.drop 25 = TX8_isNumberPrime_25 := dr1 DX8_isNumberPrime_24
theorem DX8_isNumberPrime_28 : cX8_isNumberPrime.data.toList.drop 28 = TX8_isNumberPrime_28 := dr3 DX8_isNumberPrime_25
theorem DX8_isNumberPrime_29 : cX8_isNumberPrime.data.toList.drop 29 = TX8_isNumberPrime_29 := dr1 DX8_isNumberPrime_28
theorem DX8_isNumberPrime_32 : cX8_isNumberPrime.data.toList.drop 32 = TX8_isNumberPrime_32 := dr3 DX8_isNumberPrime_29
theorem DX8_isNumberPrime_33 : cX8_isNumberPrime.data.toList.drop 33 = TX8_isNumberPrime_33 := dr1 DX8_isNumberPrime_32
theorem dX8_isNumberPrime_0 : decode cX8_isNumberPrime 0 = .ok (.iconst 2, 1) := do_05 DX8_isNumberPrime_0
theorem dX8_isNumberPrime_1 : decode cX8_isNumberPrime 1 = .ok (.istore_n 1, 1) := do_3c DX8_isNumberPrime_1
theorem dX8_isNumberPrime_2 : decode cX8_isNumberPrime 2 = .ok (.iload_n 1, 1) := do_1b DX8_isNumberPrime_2
theorem dX8_isNumberPrime_3 : decode cX8_isNumberPrime 3 = .ok (.iload_n 1, 1) := do_1b DX8_isNumberPrime_3
theorem dX8_isNumberPrime_4 : decode cX8_isNumberPrime 4 = .ok (.imul, 1) := do_68 DX8_isNumberPrime_4
theorem dX8_isNumberPrime_5 : decode cX8_isNumberPrime 5 = .ok (.iload_n 0, 1) := do_1a DX8_isNumberPrime_5
theorem dX8_isNumberPrime_6 : decode cX8_isNumberPrime 6 = .ok (.if_icmp .gt 17, 3) := do_a3 DX8_isNumberPrime_6 (by decide +kernel)
theorem dX8_isNumberPrime_9 : decode cX8_isNumberPrime 9 = .ok (.iload_n 0, 1) := do_1a DX8_isNumberPrime_9
theorem dX8_isNumberPrime_10 : decode cX8_isNumberPrime 10 = .ok (.iload_n 1, 1) := do_1b DX8_isNumberPrime_10
theorem dX8_isNumberPrime_11 : decode cX8_isNumberPrime 11 = .ok (.irem, 1) := do_70 DX8_isNumberPrime_11
theorem dX8_isNumberPrime_12 : decode cX8_isNumberPrime 12 = .ok (.ifCond .ne 5, 3) := do_9a DX8_isNumberPrime_12 (by decide +kernel)
theorem dX8_isNumberPrime_15 : decode cX8_isNumberPrime 15 = .ok (.iconst 0, 1) := do_03 DX8_isNumberPrime_15
theorem dX8_isNumberPrime_16 : decode cX8_isNumberPrime 16 = .ok (.ireturn, 1) := do_ac DX8_isNumberPrime_16
theorem dX8_isNumberPrime_17 : decode cX8_isNumberPrime 17 = .ok (.iinc 1 1, 3) := do_84 DX8_isNumberPrime_17
theorem dX8_isNumberPrime_20 : decode cX8_isNumberPrime 20 = .ok (.goto (-18), 3) := do_a7 DX8_isNumberPrime_20 (by decide +kernel)
theorem dX8_isNumberPrime_23 : decode cX8_isNumberPrime 23 = .ok (.iload_n 0, 1) := do_1a DX8_isNumberPrime_23
theorem dX8_isNumberPrime_24 : decode cX8_isNumberPrime 24 = .ok (.iconst 1, 1) := do_04 DX8_isNumberPrime_24
theorem dX8_isNumberPrime_25 : decode cX8_isNumberPrime 25 = .ok (.if_icmp .le 7, 3) := do_a4 DX8_isNumberPrime_25 (by decide +kernel)
theorem dX8_isNumberPrime_28 : decode cX8_isNumberPrime 28 = .ok (.iconst 1, 1) := do_04 DX8_isNumberPrime_28
theorem dX8_isNumberPrime_29 : decode cX8_isNumberPrime 29 = .ok (.goto 4, 3) := do_a7 DX8_isNumberPrime_29 (by decide +kernel)
theorem dX8_isNumberPrime_32 : decode cX8_isNumberPrime 32 = .ok (.iconst 0, 1) := do_03 DX8_isNumberPrime_32
theorem dX8_isNumberPrime_33 : decode cX8_isNumberPrime 33 = .ok (.ireturn, 1) := do_ac DX8_isNumberPrime_33
def TX8_witness_26 : List UInt8 := []
def TX8_witness_25 : List UInt8 := 172 :: TX8_witness_26
def TX8_witness_24 : List UInt8 := 27 :: TX8_witness_25
def TX8_witness_21 : List UInt8 := 167 :: 255 :: 237 :: TX8_witness_24
def TX8_witness_18 : List UInt8 := 132 :: 1 :: 1 :: TX8_witness_21
def TX8_witness_15 : List UInt8 := 159 :: 0 :: 9 :: TX8_witness_18
def TX8_witness_14 : List UInt8 := 100 :: TX8_witness_15
def TX8_witness_13 : List UInt8 := 4 :: TX8_witness_14
def TX8_witness_12 : List UInt8 := 26 :: TX8_witness_13
def TX8_witness_9 : List UInt8 := 184 :: 0 :: 250 :: TX8_witness_12
def TX8_witness_8 : List UInt8 := 26 :: TX8_witness_9
def TX8_witness_7 : List UInt8 := 108 :: TX8_witness_8
def TX8_witness_6 : List UInt8 := 5 :: TX8_witness_7
def TX8_witness_5 : List UInt8 := 100 :: TX8_witness_6
def TX8_witness_4 : List UInt8 := 4 :: TX8_witness_5
def TX8_witness_3 : List UInt8 := 26 :: TX8_witness_4
def TX8_witness_2 : List UInt8 := 27 :: TX8_witness_3
def TX8_witness_1 : List UInt8 := 60 :: TX8_witness_2
def TX8_witness_0 : List UInt8 := 5 :: TX8_witness_1
theorem DX8_witness_0 : cX8_witness.data.toList.drop 0 = TX8_witness_0 := by decide +kernel
theorem DX8_witness_1 : cX8_witness.data.toList.drop 1 = TX8_witness_1 := dr1 DX8_witness_0
theorem DX8_witness_2 : cX8_witness.data.toList.drop 2 = TX8_witness_2 := dr1 DX8_witness_1
theorem DX8_witness_3 : cX8_witness.data.toList.drop 3 = TX8_witness_3 := dr1 DX8_witness_2
theorem DX8_witness_4 : cX8_witness.data.toList.drop 4 = TX8_witness_4 := dr1 DX8_witness_3
theorem DX8_witness_5 : cX8_witness.data.toList.drop 5 = TX8_witness_5 := dr1 DX8_witness_4
theorem DX8_witness_6 : cX8_witness.data.toList.drop 6 = TX8_witness_6 := dr1 DX8_witness_5
theorem DX8_witness_7 : cX8_witness.data.toList.drop 7 = TX8_witness_7 := dr1 DX8_witness_6
theorem DX8_witness_8 : cX8_witness.data.toList.drop 8 = TX8_witness_8 := dr1 DX8_witness_7
theorem DX8_witness_9 : cX8_witness.data.toList.drop 9 = TX8_witness_9 := dr1 DX8_witness_8
theorem DX8_witness_12 : cX8_witness.data.toList.drop 12 = TX8_witness_12 := dr3 DX8_witness_9
theorem DX8_witness_13 : cX8_witness.data.toList.drop 13 = TX8_witness_13 := dr1 DX8_witness_12
theorem DX8_witness_14 : cX8_witness.data.toList.drop 14 = TX8_witness_14 := dr1 DX8_witness_13
theorem DX8_witness_15 : cX8_witness.data.toList.drop 15 = TX8_witness_15 := dr1 DX8_witness_14
theorem DX8_witness_18 : cX8_witness.data.toList.drop 18 = TX8_witness_18 := dr3 DX8_witness_15
theorem DX8_witness_21 : cX8_witness.data.toList.drop 21 = TX8_witness_21 := dr3 DX8_witness_18
theorem DX8_witness_24 : cX8_witness.data.toList.drop 24 = TX8_witness_24 := dr3 DX8_witness_21
theorem DX8_witness_25 : cX8_witness.data.toList.drop 25 = TX8_witness_25 := dr1 DX8_witness_24
theorem dX8_witness_0 : decode cX8_witness 0 = .ok (.iconst 2, 1) := do_05 DX8_witness_0
theorem dX8_witness_1 : decode cX8_witness 1 = .ok (.istore_n 1, 1) := do_3c DX8_witness_1
theorem dX8_witness_2 : decode cX8_witness 2 = .ok (.iload_n 1, 1) := do_1b DX8_witness_2
theorem dX8_witness_3 : decode cX8_witness 3 = .ok (.iload_n 0, 1) := do_1a DX8_witness_3
theorem dX8_witness_4 : decode cX8_witness 4 = .ok (.iconst 1, 1) := do_04 DX8_witness_4
theorem dX8_witness_5 : decode cX8_witness 5 = .ok (.isub, 1) := do_64 DX8_witness_5
theorem dX8_witness_6 : decode cX8_witness 6 = .ok (.iconst 2, 1) := do_05 DX8_witness_6
theorem dX8_witness_7 : decode cX8_witness 7 = .ok (.idiv, 1) := do_6c DX8_witness_7
theorem dX8_witness_8 : decode cX8_witness 8 = .ok (.iload_n 0, 1) := do_1a DX8_witness_8
theorem dX8_witness_9 : decode cX8_witness 9 = .ok (.invokestatic 250, 3) := do_b8 DX8_witness_9
theorem dX8_witness_12 : decode cX8_witness 12 = .ok (.iload_n 0, 1) := do_1a DX8_witness_12
theorem dX8_witness_13 : decode cX8_witness 13 = .ok (.iconst 1, 1) := do_04 DX8_witness_13
theorem dX8_witness_14 : decode cX8_witness 14 = .ok (.isub, 1) := do_64 DX8_witness_14
theorem dX8_witness_15 : decode cX8_witness 15 = .ok (.if_icmp .eq 9, 3) := do_9f DX8_witness_15 (by decide +kernel)
theorem dX8_witness_18 : decode cX8_witness 18 = .ok (.iinc 1 1, 3) := do_84 DX8_witness_18
theorem dX8_witness_21 : decode cX8_witness 21 = .ok (.goto (-19), 3) := do_a7 DX8_witness_21 (by decide +kernel)
theorem dX8_witness_24 : decode cX8_witness 24 = .ok (.iload_n 1, 1) := do_1b DX8_witness_24
theorem dX8_witness_25 : decode cX8_witness 25 = .ok (.ireturn, 1) := do_ac DX8_witness_25
def TX8_imaginary_14 : List UInt8 := []
def TX8_imaginary_13 : List UInt8 := 172 :: TX8_imaginary_14
def TX8_imaginary_10 : List UInt8 := 184 :: 0 :: 250 :: TX8_imaginary_13
def TX8_imaginary_9 : List UInt8 := 26 :: TX8_imaginary_10
def TX8_imaginary_8 : List UInt8 := 108 :: TX8_imaginary_9
def TX8_imaginary_7 : List UInt8 := 7 :: TX8_imaginary_8
def TX8_imaginary_6 : List UInt8 := 100 :: TX8_imaginary_7
def TX8_imaginary_5 : List UInt8 := 4 :: TX8_imaginary_6
def TX8_imaginary_4 : List UInt8 := 26 :: TX8_imaginary_5
def TX8_imaginary_1 : List UInt8 := 184 :: 0 :: 254 :: TX8_imaginary_4
def TX8_imaginary_0 : List UInt8 := 26 :: TX8_imaginary_1
theorem DX8_imaginary_0 : cX8_imaginary.data.toList.drop 0 = TX8_imaginary_0 := by decide +kernel
theorem DX8_imaginary_1 : cX8_imaginary.data.toList.drop 1 = TX8_imaginary_1 := dr1 DX8_imaginary_0
theorem DX8_imaginary_4 : cX8_imaginary.data.toList.drop 4 = TX8_imaginary_4 := dr3 DX8_imaginary_1
theorem DX8_imaginary_5 : cX8_imaginary.data.toList.drop 5 = TX8_imaginary_5 := dr1 DX8_imaginary_4
theorem DX8_imaginary_6 : cX8_imaginary.data.toList.drop 6 = TX8_imaginary_6 := dr1 DX8_imaginary_5
theorem DX8_imaginary_7 : cX8_imaginary.data.toList.drop 7 = TX8_imaginary_7 := dr1 DX8_imaginary_6
theorem DX8_imaginary_8 : cX8_imaginary.data.toList.drop 8 = TX8_imaginary_8 := dr1 DX8_imaginary_7
theorem DX8_imaginary_9 : cX8_imaginary.data.toList.drop 9 = TX8_imaginary_9 := dr1 DX8_imaginary_8
theorem DX8_imaginary_10 : cX8_imaginary.data.toList.drop 10 = TX8_imaginary_10 := dr1 DX8_imaginary_9
theorem DX8_imaginary_13 : cX8_imaginary.data.toList.drop 13 = TX8_imaginary_13 := dr3 DX8_imaginary_10
theorem dX8_imaginary_0 : decode cX8_imaginary 0 = .ok (.iload_n 0, 1) := do_1a DX8_imaginary_0
theorem dX8_imaginary_1 : decode cX8_imaginary 1 = .ok (.invokestatic 254, 3) := do_b8 DX8_imaginary_1
theorem dX8_imaginary_4 : decode cX8_imaginary 4 = .ok (.iload_n 0, 1) := do_1a DX8_imaginary_4
theorem dX8_imaginary_5 : decode cX8_imaginary 5 = .ok (.iconst 1, 1) := do_04 DX8_imaginary_5
theorem dX8_imaginary_6 : decode cX8_imaginary 6 = .ok (.isub, 1) := do_64 DX8_imaginary_6
theorem dX8_imaginary_7 : decode cX8_imaginary 7 = .ok (.iconst 4, 1) := do_07 DX8_imaginary_7
theorem dX8_imaginary_8 : decode cX8_imaginary 8 = .ok (.idiv, 1) := do_6c DX8_imaginary_8
theorem dX8_imaginary_9 : decode cX8_imaginary 9 = .ok (.iload_n 0, 1) := do_1a DX8_imaginary_9
theorem dX8_imaginary_10 : decode cX8_imaginary 10 = .ok (.invokestatic 250, 3) := do_b8 DX8_imaginary_10
theorem dX8_imaginary_13 : decode cX8_imaginary 13 = .ok (.ireturn, 1) := do_ac DX8_imaginary_13
def TX8_begun_32 : List UInt8 := []
def TX8_begun_31 : List UInt8 := 176 :: TX8_begun_32
def TX8_begun_30 : List UInt8 := 79 :: TX8_begun_31
def TX8_begun_29 : List UInt8 := 3 :: TX8_begun_30
def TX8_begun_28 : List UInt8 := 8 :: TX8_begun_29
def TX8_begun_27 : List UInt8 := 89 :: TX8_begun_28
def TX8_begun_26 : List UInt8 := 79 :: TX8_begun_27
def TX8_begun_25 : List UInt8 := 4 :: TX8_begun_26
def TX8_begun_24 : List UInt8 := 7 :: TX8_begun_25
def TX8_begun_23 : List UInt8 := 89 :: TX8_begun_24
def TX8_begun_22 : List UInt8 := 79 :: TX8_begun_23
def TX8_begun_21 : List UInt8 := 3 :: TX8_begun_22
def TX8_begun_20 : List UInt8 := 6 :: TX8_begun_21
def TX8_begun_19 : List UInt8 := 89 :: TX8_begun_20
def TX8_begun_18 : List UInt8 := 79 :: TX8_begun_19
def TX8_begun_15 : List UInt8 := 184 :: 1 :: 1 :: TX8_begun_18
def TX8_begun_14 : List UInt8 := 26 :: TX8_begun_15
def TX8_begun_13 : List UInt8 := 5 :: TX8_begun_14
def TX8_begun_12 : List UInt8 := 89 :: TX8_begun_13
def TX8_begun_11 : List UInt8 := 79 :: TX8_begun_12
def TX8_begun_10 : List UInt8 := 26 :: TX8_begun_11
def TX8_begun_9 : List UInt8 := 4 :: TX8_begun_10
def TX8_begun_8 : List UInt8 := 89 :: TX8_begun_9
def TX8_begun_7 : List UInt8 := 79 :: TX8_begun_8
def TX8_begun_6 : List UInt8 := 26 :: TX8_begun_7
def TX8_begun_5 : List UInt8 := 3 :: TX8_begun_6
def TX8_begun_4 : List UInt8 := 89 :: TX8_begun_5
def TX8_begun_2 : List UInt8 := 188 :: 10 :: TX8_begun_4
def TX8_begun_0 : List UInt8 := 16 :: 6 :: TX8_begun_2
theorem DX8_begun_0 : cX8_begun.data.toList.drop 0 = TX8_begun_0 := by decide +kernel
theorem DX8_begun_2 : cX8_begun.data.toList.drop 2 = TX8_begun_2 := dr2 DX8_begun_0
theorem DX8_begun_4 : cX8_begun.data.toList.drop 4 = TX8_begun_4 := dr2 DX8_begun_2
theorem DX8_begun_5 : cX8_begun.data.toList.drop 5 = TX8_begun_5 := dr1 DX8_begun_4
theorem DX8_begun_6 : cX8_begun.data.toList.drop 6 = TX8_begun_6 := dr1 DX8_begun_5
theorem DX8_begun_7 : cX8_begun.data.toList.drop 7 = TX8_begun_7 := dr1 DX8_begun_6
theorem DX8_begun_8 : cX8_begun.data.toList.drop 8 = TX8_begun_8 := dr1 DX8_begun_7
theorem DX8_begun_9 : cX8_begun.data.toList.drop 9 = TX8_begun_9 := dr1 DX8_begun_8
theorem DX8_begun_10 : cX8_begun.data.toList.drop 10 = TX8_begun_10 := dr1 DX8_begun_9
theorem DX8_begun_11 : cX8_begun.data.toList.drop 11 = TX8_begun_11 := dr1 DX8_begun_10
theorem DX8_begun_12 : cX8_begun.data.toList.drop 12 = TX8_begun_12 := dr1 DX8_begun_11
theorem DX8_begun_13 : cX8_begun.data.toList.drop 13 = TX8_begun_13 := dr1 DX8_begun_12
theorem DX8_begun_14 : cX8_begun.data.toList.drop 14 = TX8_begun_14 := dr1 DX8_begun_13
theorem DX8_begun_15 : cX8_begun.data.toList.drop 15 = TX8_begun_15 := dr1 DX8_begun_14
theorem DX8_begun_18 : cX8_begun.data.toList.drop 18 = TX8_begun_18 := dr3 DX8_begun_15
theorem DX8_begun_19 : cX8_begun.data.toList.drop 19 = TX8_begun_19 := dr1 DX8_begun_18
theorem DX8_begun_20 : cX8_begun.data.toList.drop 20 = TX8_begun_20 := dr1 DX8_begun_19
theorem DX8_begun_21 : cX8_begun.data.toList.drop 21 = TX8_begun_21 := dr1 DX8_begun_20
theorem DX8_begun_22 : cX8_begun.data.toList.drop 22 = TX8_begun_22 := dr1 DX8_begun_21
theorem DX8_begun_23 : cX8_begun.data.toList.drop 23 = TX8_begun_23 := dr1 DX8_begun_22
theorem DX8_begun_24 : cX8_begun.data.toList.drop 24 = TX8_begun_24 := dr1 DX8_begun_23
theorem DX8_begun_25 : cX8_begun.data.toList.drop 25 = TX8_begun_25 := dr1 DX8_begun_24
theorem DX8_begun_26 : cX8_begun.data.toList.drop 26 = TX8_begun_26 := dr1 DX8_begun_25
theorem DX8_begun_27 : cX8_begun.data.toList.drop 27 = TX8_begun_27 := dr1 DX8_begun_26
theorem DX8_begun_28 : cX8_begun.data.toList.drop 28 = TX8_begun_28 := dr1 DX8_begun_27
theorem DX8_begun_29 : cX8_begun.data.toList.drop 29 = TX8_begun_29 := dr1 DX8_begun_28
theorem DX8_begun_30 : cX8_begun.data.toList.drop 30 = TX8_begun_30 := dr1 DX8_begun_29
theorem DX8_begun_31 : cX8_begun.data.toList.drop 31 = TX8_begun_31 := dr1 DX8_begun_30
theorem dX8_begun_0 : decode cX8_begun 0 = .ok (.bipush 6, 2) := do_10 DX8_begun_0 (by decide +kernel)
theorem dX8_begun_2 : decode cX8_begun 2 = .ok (.newarray .int, 2) := by decide +kernel
theorem dX8_begun_4 : decode cX8_begun 4 = .ok (.dup, 1) := do_59 DX8_begun_4
theorem dX8_begun_5 : decode cX8_begun 5 = .ok (.iconst 0, 1) := do_03 DX8_begun_5
theorem dX8_begun_6 : decode cX8_begun 6 = .ok (.iload_n 0, 1) := do_1a DX8_begun_6
theorem dX8_begun_7 : decode cX8_begun 7 = .ok (.iastore, 1) := do_4f DX8_begun_7
theorem dX8_begun_8 : decode cX8_begun 8 = .ok (.dup, 1) := do_59 DX8_begun_8
theorem dX8_begun_9 : decode cX8_begun 9 = .ok (.iconst 1, 1) := do_04 DX8_begun_9
theorem dX8_begun_10 : decode cX8_begun 10 = .ok (.iload_n 0, 1) := do_1a DX8_begun_10
theorem dX8_begun_11 : decode cX8_begun 11 = .ok (.iastore, 1) := do_4f DX8_begun_11
theorem dX8_begun_12 : decode cX8_begun 12 = .ok (.dup, 1) := do_59 DX8_begun_12
theorem dX8_begun_13 : decode cX8_begun 13 = .ok (.iconst 2, 1) := do_05 DX8_begun_13
theorem dX8_begun_14 : decode cX8_begun 14 = .ok (.iload_n 0, 1) := do_1a DX8_begun_14
theorem dX8_begun_15 : decode cX8_begun 15 = .ok (.invokestatic 257, 3) := do_b8 DX8_begun_15
theorem dX8_begun_18 : decode cX8_begun 18 = .ok (.iastore, 1) := do_4f DX8_begun_18
theorem dX8_begun_19 : decode cX8_begun 19 = .ok (.dup, 1) := do_59 DX8_begun_19
theorem dX8_begun_20 : decode cX8_begun 20 = .ok (.iconst 3, 1) := do_06 DX8_begun_20
theorem dX8_begun_21 : decode cX8_begun 21 = .ok (.iconst 0, 1) := do_03 DX8_begun_21
theorem dX8_begun_22 : decode cX8_begun 22 = .ok (.iastore, 1) := do_4f DX8_begun_22
theorem dX8_begun_23 : decode cX8_begun 23 = .ok (.dup, 1) := do_59 DX8_begun_23
theorem dX8_begun_24 : decode cX8_begun 24 = .ok (.iconst 4, 1) := do_07 DX8_begun_24
theorem dX8_begun_25 : decode cX8_begun 25 = .ok (.iconst 1, 1) := do_04 DX8_begun_25
theorem dX8_begun_26 : decode cX8_begun 26 = .ok (.iastore, 1) := do_4f DX8_begun_26
theorem dX8_begun_27 : decode cX8_begun 27 = .ok (.dup, 1) := do_59 DX8_begun_27
theorem dX8_begun_28 : decode cX8_begun 28 = .ok (.iconst 5, 1) := do_08 DX8_begun_28
theorem dX8_begun_29 : decode cX8_begun 29 = .ok (.iconst 0, 1) := do_03 DX8_begun_29
theorem dX8_begun_30 : decode cX8_begun 30 = .ok (.iastore, 1) := do_4f DX8_begun_30
theorem dX8_begun_31 : decode cX8_begun 31 = .ok (.areturn, 1) := do_b0 DX8_begun_31
def TX8_step_84 : List UInt8 := []
def TX8_step_83 : List UInt8 := 177 :: TX8_step_84
def TX8_step_80 : List UInt8 := 167 :: 255 :: 241 :: TX8_step_83
def TX8_step_77 : List UInt8 := 132 :: 3 :: 1 :: TX8_step_80
def TX8_step_76 : List UInt8 := 79 :: TX8_step_77
def TX8_step_75 : List UInt8 := 46 :: TX8_step_76
def TX8_step_74 : List UInt8 := 29 :: TX8_step_75
def TX8_step_73 : List UInt8 := 44 :: TX8_step_74
def TX8_step_72 : List UInt8 := 29 :: TX8_step_73
def TX8_step_71 : List UInt8 := 42 :: TX8_step_72
def TX8_step_68 : List UInt8 := 162 :: 0 :: 15 :: TX8_step_71
def TX8_step_66 : List UInt8 := 16 :: 6 :: TX8_step_68
def TX8_step_65 : List UInt8 := 29 :: TX8_step_66
def TX8_step_64 : List UInt8 := 62 :: TX8_step_65
def TX8_step_63 : List UInt8 := 3 :: TX8_step_64
def TX8_step_62 : List UInt8 := 77 :: TX8_step_63
def TX8_step_61 : List UInt8 := 79 :: TX8_step_62
def TX8_step_60 : List UInt8 := 96 :: TX8_step_61
def TX8_step_59 : List UInt8 := 4 :: TX8_step_60
def TX8_step_58 : List UInt8 := 46 :: TX8_step_59
def TX8_step_57 : List UInt8 := 8 :: TX8_step_58
def TX8_step_56 : List UInt8 := 42 :: TX8_step_57
def TX8_step_55 : List UInt8 := 8 :: TX8_step_56
def TX8_step_54 : List UInt8 := 89 :: TX8_step_55
def TX8_step_53 : List UInt8 := 79 :: TX8_step_54
def TX8_step_52 : List UInt8 := 100 :: TX8_step_53
def TX8_step_51 : List UInt8 := 104 :: TX8_step_52
def TX8_step_50 : List UInt8 := 46 :: TX8_step_51
def TX8_step_49 : List UInt8 := 7 :: TX8_step_50
def TX8_step_48 : List UInt8 := 42 :: TX8_step_49
def TX8_step_47 : List UInt8 := 27 :: TX8_step_48
def TX8_step_46 : List UInt8 := 46 :: TX8_step_47
def TX8_step_45 : List UInt8 := 6 :: TX8_step_46
def TX8_step_44 : List UInt8 := 42 :: TX8_step_45
def TX8_step_43 : List UInt8 := 7 :: TX8_step_44
def TX8_step_42 : List UInt8 := 89 :: TX8_step_43
def TX8_step_41 : List UInt8 := 79 :: TX8_step_42
def TX8_step_40 : List UInt8 := 46 :: TX8_step_41
def TX8_step_39 : List UInt8 := 7 :: TX8_step_40
def TX8_step_38 : List UInt8 := 42 :: TX8_step_39
def TX8_step_37 : List UInt8 := 6 :: TX8_step_38
def TX8_step_36 : List UInt8 := 89 :: TX8_step_37
def TX8_step_35 : List UInt8 := 79 :: TX8_step_36
def TX8_step_34 : List UInt8 := 100 :: TX8_step_35
def TX8_step_33 : List UInt8 := 104 :: TX8_step_34
def TX8_step_32 : List UInt8 := 46 :: TX8_step_33
def TX8_step_31 : List UInt8 := 5 :: TX8_step_32
def TX8_step_30 : List UInt8 := 42 :: TX8_step_31
def TX8_step_29 : List UInt8 := 27 :: TX8_step_30
def TX8_step_28 : List UInt8 := 46 :: TX8_step_29
def TX8_step_27 : List UInt8 := 4 :: TX8_step_28
def TX8_step_26 : List UInt8 := 42 :: TX8_step_27
def TX8_step_25 : List UInt8 := 5 :: TX8_step_26
def TX8_step_24 : List UInt8 := 89 :: TX8_step_25
def TX8_step_23 : List UInt8 := 79 :: TX8_step_24
def TX8_step_22 : List UInt8 := 46 :: TX8_step_23
def TX8_step_21 : List UInt8 := 5 :: TX8_step_22
def TX8_step_20 : List UInt8 := 42 :: TX8_step_21
def TX8_step_19 : List UInt8 := 4 :: TX8_step_20
def TX8_step_18 : List UInt8 := 89 :: TX8_step_19
def TX8_step_17 : List UInt8 := 79 :: TX8_step_18
def TX8_step_16 : List UInt8 := 46 :: TX8_step_17
def TX8_step_15 : List UInt8 := 3 :: TX8_step_16
def TX8_step_14 : List UInt8 := 42 :: TX8_step_15
def TX8_step_13 : List UInt8 := 3 :: TX8_step_14
def TX8_step_12 : List UInt8 := 89 :: TX8_step_13
def TX8_step_10 : List UInt8 := 188 :: 10 :: TX8_step_12
def TX8_step_8 : List UInt8 := 16 :: 6 :: TX8_step_10
def TX8_step_7 : List UInt8 := 60 :: TX8_step_8
def TX8_step_6 : List UInt8 := 108 :: TX8_step_7
def TX8_step_5 : List UInt8 := 46 :: TX8_step_6
def TX8_step_4 : List UInt8 := 5 :: TX8_step_5
def TX8_step_3 : List UInt8 := 42 :: TX8_step_4
def TX8_step_2 : List UInt8 := 46 :: TX8_step_3
def TX8_step_1 : List UInt8 := 4 :: TX8_step_2
def TX8_step_0 : List UInt8 := 42 :: TX8_step_1
theorem DX8_step_0 : cX8_step.data.toList.drop 0 = TX8_step_0 := by decide +kernel
theorem DX8_step_1 : cX8_step.data.toList.drop 1 = TX8_step_1 := dr1 DX8_step_0
theorem DX8_step_2 : cX8_step.data.toList.drop 2 = TX8_step_2 := dr1 DX8_step_1
theorem DX8_step_3 : cX8_step.data.toList.drop 3 = TX8_step_3 := dr1 DX8_step_2
theorem DX8_step_4 : cX8_step.data.toList.drop 4 = TX8_step_4 := dr1 DX8_step_3
theorem DX8_step_5 : cX8_step.data.toList.drop 5 = TX8_step_5 := dr1 DX8_step_4
theorem DX8_step_6 : cX8_step.data.toList.drop 6 = TX8_step_6 := dr1 DX8_step_5
theorem DX8_step_7 : cX8_step.data.toList.drop 7 = TX8_step_7 := dr1 DX8_step_6
theorem DX8_step_8 : cX8_step.data.toList.drop 8 = TX8_step_8 := dr1 DX8_step_7
theorem DX8_step_10 : cX8_step.data.toList.drop 10 = TX8_step_10 := dr2 DX8_step_8
theorem DX8_step_12 : cX8_step.data.toList.drop 12 = TX8_step_12 := dr2 DX8_step_10
theorem DX8_step_13 : cX8_step.data.toList.drop 13 = TX8_step_13 := dr1 DX8_step_12
theorem DX8_step_14 : cX8_step.data.toList.drop 14 = TX8_step_14 := dr1 DX8_step_13
theorem DX8_step_15 : cX8_step.data.toList.drop 15 = TX8_step_15 := dr1 DX8_step_14
theorem DX8_step_16 : cX8_step.data.toList.drop 16 = TX8_step_16 := dr1 DX8_step_15
theorem DX8_step_17 : cX8_step.data.toList.drop 17 = TX8_step_17 := dr1 DX8_step_16
theorem DX8_step_18 : cX8_step.data.toList.drop 18 = TX8_step_18 := dr1 DX8_step_17
theorem DX8_step_19 : cX8_step.data.toList.drop 19 = TX8_step_19 := dr1 DX8_step_18
theorem DX8_step_20 : cX8_step.data.toList.drop 20 = TX8_step_20 := dr1 DX8_step_19
theorem DX8_step_21 : cX8_step.data.toList.drop 21 = TX8_step_21 := dr1 DX8_step_20
theorem DX8_step_22 : cX8_step.data.toList.drop 22 = TX8_step_22 := dr1 DX8_step_21
theorem DX8_step_23 : cX8_step.data.toList.drop 23 = TX8_step_23 := dr1 DX8_step_22
theorem DX8_step_24 : cX8_step.data.toList.drop 24 = TX8_step_24 := dr1 DX8_step_23
theorem DX8_step_25 : cX8_step.data.toList.drop 25 = TX8_step_25 := dr1 DX8_step_24
theorem DX8_step_26 : cX8_step.data.toList.drop 26 = TX8_step_26 := dr1 DX8_step_25
theorem DX8_step_27 : cX8_step.data.toList.drop 27 = TX8_step_27 := dr1 DX8_step_26
theorem DX8_step_28 : cX8_step.data.toList.drop 28 = TX8_step_28 := dr1 DX8_step_27
theorem DX8_step_29 : cX8_step.data.toList.drop 29 = TX8_step_29 := dr1 DX8_step_28
theorem DX8_step_30 : cX8_step.data.toList.drop 30 = TX8_step_30 := dr1 DX8_step_29
theorem DX8_step_31 : cX8_step.data.toList.drop 31 = TX8_step_31 := dr1 DX8_step_30
theorem DX8_step_32 : cX8_step.data.toList.drop 32 = TX8_step_32 := dr1 DX8_step_31
theorem DX8_step_33 : cX8_step.data.toList.drop 33 = TX8_step_33 := dr1 DX8_step_32
theorem DX8_step_34 : cX8_step.data.toList.drop 34 = TX8_step_34 := dr1 DX8_step_33
theorem DX8_step_35 : cX8_step.data.toList.drop 35 = TX8_step_35 := dr1 DX8_step_34
theorem DX8_step_36 : cX8_step.data.toList.drop 36 = TX8_step_36 := dr1 DX8_step_35
theorem DX8_step_37 : cX8_step.data.toList.drop 37 = TX8_step_37 := dr1 DX8_step_36
theorem DX8_step_38 : cX8_step.data.toList.drop 38 = TX8_step_38 := dr1 DX8_step_37
theorem DX8_step_39 : cX8_step.data.toList.drop 39 = TX8_step_39 := dr1 DX8_step_38
theorem DX8_step_40 : cX8_step.data.toList.drop 40 = TX8_step_40 := dr1 DX8_step_39
theorem DX8_step_41 : cX8_step.data.toList.drop 41 = TX8_step_41 := dr1 DX8_step_40
theorem DX8_step_42 : cX8_step.data.toList.drop 42 = TX8_step_42 := dr1 DX8_step_41
theorem DX8_step_43 : cX8_step.data.toList.drop 43 = TX8_step_43 := dr1 DX8_step_42
theorem DX8_step_44 : cX8_step.data.toList.drop 44 = TX8_step_44 := dr1 DX8_step_43
theorem DX8_step_45 : cX8_step.data.toList.drop 45 = TX8_step_45 := dr1 DX8_step_44
theorem DX8_step_46 : cX8_step.data.toList.drop 46 = TX8_step_46 := dr1 DX8_step_45
theorem DX8_step_47 : cX8_step.data.toList.drop 47 = TX8_step_47 := dr1 DX8_step_46
theorem DX8_step_48 : cX8_step.data.toList.drop 48 = TX8_step_48 := dr1 DX8_step_47
theorem DX8_step_49 : cX8_step.data.toList.drop 49 = TX8_step_49 := dr1 DX8_step_48
theorem DX8_step_50 : cX8_step.data.toList.drop 50 = TX8_step_50 := dr1 DX8_step_49
theorem DX8_step_51 : cX8_step.data.toList.drop 51 = TX8_step_51 := dr1 DX8_step_50
theorem DX8_step_52 : cX8_step.data.toList.drop 52 = TX8_step_52 := dr1 DX8_step_51
theorem DX8_step_53 : cX8_step.data.toList.drop 53 = TX8_step_53 := dr1 DX8_step_52
theorem DX8_step_54 : cX8_step.data.toList.drop 54 = TX8_step_54 := dr1 DX8_step_53
theorem DX8_step_55 : cX8_step.data.toList.drop 55 = TX8_step_55 := dr1 DX8_step_54
theorem DX8_step_56 : cX8_step.data.toList.drop 56 = TX8_step_56 := dr1 DX8_step_55
theorem DX8_step_57 : cX8_step.data.toList.drop 57 = TX8_step_57 := dr1 DX8_step_56
theorem DX8_step_58 : cX8_step.data.toList.drop 58 = TX8_step_58 := dr1 DX8_step_57
theorem DX8_step_59 : cX8_step.data.toList.drop 59 = TX8_step_59 := dr1 DX8_step_58
theorem DX8_step_60 : cX8_step.data.toList.drop 60 = TX8_step_60 := dr1 DX8_step_59
theorem DX8_step_61 : cX8_step.data.toList.drop 61 = TX8_step_61 := dr1 DX8_step_60
theorem DX8_step_62 : cX8_step.data.toList.drop 62 = TX8_step_62 := dr1 DX8_step_61
theorem DX8_step_63 : cX8_step.data.toList.drop 63 = TX8_step_63 := dr1 DX8_step_62
theorem DX8_step_64 : cX8_step.data.toList.drop 64 = TX8_step_64 := dr1 DX8_step_63
theorem DX8_step_65 : cX8_step.data.toList.drop 65 = TX8_step_65 := dr1 DX8_step_64
theorem DX8_step_66 : cX8_step.data.toList.drop 66 = TX8_step_66 := dr1 DX8_step_65
theorem DX8_step_68 : cX8_step.data.toList.drop 68 = TX8_step_68 := dr2 DX8_step_66
theorem DX8_step_71 : cX8_step.data.toList.drop 71 = TX8_step_71 := dr3 DX8_step_68
theorem DX8_step_72 : cX8_step.data.toList.drop 72 = TX8_step_72 := dr1 DX8_step_71
theorem DX8_step_73 : cX8_step.data.toList.drop 73 = TX8_step_73 := dr1 DX8_step_72
theorem DX8_step_74 : cX8_step.data.toList.drop 74 = TX8_step_74 := dr1 DX8_step_73
theorem DX8_step_75 : cX8_step.data.toList.drop 75 = TX8_step_75 := dr1 DX8_step_74
theorem DX8_step_76 : cX8_step.data.toList.drop 76 = TX8_step_76 := dr1 DX8_step_75
theorem DX8_step_77 : cX8_step.data.toList.drop 77 = TX8_step_77 := dr1 DX8_step_76
theorem DX8_step_80 : cX8_step.data.toList.drop 80 = TX8_step_80 := dr3 DX8_step_77
theorem DX8_step_83 : cX8_step.data.toList.drop 83 = TX8_step_83 := dr3 DX8_step_80
theorem dX8_step_0 : decode cX8_step 0 = .ok (.aload_n 0, 1) := do_2a DX8_step_0
theorem dX8_step_1 : decode cX8_step 1 = .ok (.iconst 1, 1) := do_04 DX8_step_1
theorem dX8_step_2 : decode cX8_step 2 = .ok (.iaload, 1) := do_2e DX8_step_2
theorem dX8_step_3 : decode cX8_step 3 = .ok (.aload_n 0, 1) := do_2a DX8_step_3
theorem dX8_step_4 : decode cX8_step 4 = .ok (.iconst 2, 1) := do_05 DX8_step_4
theorem dX8_step_5 : decode cX8_step 5 = .ok (.iaload, 1) := do_2e DX8_step_5
theorem dX8_step_6 : decode cX8_step 6 = .ok (.idiv, 1) := do_6c DX8_step_6
theorem dX8_step_7 : decode cX8_step 7 = .ok (.istore_n 1, 1) := do_3c DX8_step_7
theorem dX8_step_8 : decode cX8_step 8 = .ok (.bipush 6, 2) := do_10 DX8_step_8 (by decide +kernel)
theorem dX8_step_10 : decode cX8_step 10 = .ok (.newarray .int, 2) := by decide +kernel
theorem dX8_step_12 : decode cX8_step 12 = .ok (.dup, 1) := do_59 DX8_step_12
theorem dX8_step_13 : decode cX8_step 13 = .ok (.iconst 0, 1) := do_03 DX8_step_13
theorem dX8_step_14 : decode cX8_step 14 = .ok (.aload_n 0, 1) := do_2a DX8_step_14
theorem dX8_step_15 : decode cX8_step 15 = .ok (.iconst 0, 1) := do_03 DX8_step_15
theorem dX8_step_16 : decode cX8_step 16 = .ok (.iaload, 1) := do_2e DX8_step_16
theorem dX8_step_17 : decode cX8_step 17 = .ok (.iastore, 1) := do_4f DX8_step_17
theorem dX8_step_18 : decode cX8_step 18 = .ok (.dup, 1) := do_59 DX8_step_18
theorem dX8_step_19 : decode cX8_step 19 = .ok (.iconst 1, 1) := do_04 DX8_step_19
theorem dX8_step_20 : decode cX8_step 20 = .ok (.aload_n 0, 1) := do_2a DX8_step_20
theorem dX8_step_21 : decode cX8_step 21 = .ok (.iconst 2, 1) := do_05 DX8_step_21
theorem dX8_step_22 : decode cX8_step 22 = .ok (.iaload, 1) := do_2e DX8_step_22
theorem dX8_step_23 : decode cX8_step 23 = .ok (.iastore, 1) := do_4f DX8_step_23
theorem dX8_step_24 : decode cX8_step 24 = .ok (.dup, 1) := do_59 DX8_step_24
theorem dX8_step_25 : decode cX8_step 25 = .ok (.iconst 2, 1) := do_05 DX8_step_25
theorem dX8_step_26 : decode cX8_step 26 = .ok (.aload_n 0, 1) := do_2a DX8_step_26
theorem dX8_step_27 : decode cX8_step 27 = .ok (.iconst 1, 1) := do_04 DX8_step_27
theorem dX8_step_28 : decode cX8_step 28 = .ok (.iaload, 1) := do_2e DX8_step_28
theorem dX8_step_29 : decode cX8_step 29 = .ok (.iload_n 1, 1) := do_1b DX8_step_29
theorem dX8_step_30 : decode cX8_step 30 = .ok (.aload_n 0, 1) := do_2a DX8_step_30
theorem dX8_step_31 : decode cX8_step 31 = .ok (.iconst 2, 1) := do_05 DX8_step_31
theorem dX8_step_32 : decode cX8_step 32 = .ok (.iaload, 1) := do_2e DX8_step_32
theorem dX8_step_33 : decode cX8_step 33 = .ok (.imul, 1) := do_68 DX8_step_33
theorem dX8_step_34 : decode cX8_step 34 = .ok (.isub, 1) := do_64 DX8_step_34
theorem dX8_step_35 : decode cX8_step 35 = .ok (.iastore, 1) := do_4f DX8_step_35
theorem dX8_step_36 : decode cX8_step 36 = .ok (.dup, 1) := do_59 DX8_step_36
theorem dX8_step_37 : decode cX8_step 37 = .ok (.iconst 3, 1) := do_06 DX8_step_37
theorem dX8_step_38 : decode cX8_step 38 = .ok (.aload_n 0, 1) := do_2a DX8_step_38
theorem dX8_step_39 : decode cX8_step 39 = .ok (.iconst 4, 1) := do_07 DX8_step_39
theorem dX8_step_40 : decode cX8_step 40 = .ok (.iaload, 1) := do_2e DX8_step_40
theorem dX8_step_41 : decode cX8_step 41 = .ok (.iastore, 1) := do_4f DX8_step_41
theorem dX8_step_42 : decode cX8_step 42 = .ok (.dup, 1) := do_59 DX8_step_42
theorem dX8_step_43 : decode cX8_step 43 = .ok (.iconst 4, 1) := do_07 DX8_step_43
theorem dX8_step_44 : decode cX8_step 44 = .ok (.aload_n 0, 1) := do_2a DX8_step_44
theorem dX8_step_45 : decode cX8_step 45 = .ok (.iconst 3, 1) := do_06 DX8_step_45
theorem dX8_step_46 : decode cX8_step 46 = .ok (.iaload, 1) := do_2e DX8_step_46
theorem dX8_step_47 : decode cX8_step 47 = .ok (.iload_n 1, 1) := do_1b DX8_step_47
theorem dX8_step_48 : decode cX8_step 48 = .ok (.aload_n 0, 1) := do_2a DX8_step_48
theorem dX8_step_49 : decode cX8_step 49 = .ok (.iconst 4, 1) := do_07 DX8_step_49
theorem dX8_step_50 : decode cX8_step 50 = .ok (.iaload, 1) := do_2e DX8_step_50
theorem dX8_step_51 : decode cX8_step 51 = .ok (.imul, 1) := do_68 DX8_step_51
theorem dX8_step_52 : decode cX8_step 52 = .ok (.isub, 1) := do_64 DX8_step_52
theorem dX8_step_53 : decode cX8_step 53 = .ok (.iastore, 1) := do_4f DX8_step_53
theorem dX8_step_54 : decode cX8_step 54 = .ok (.dup, 1) := do_59 DX8_step_54
theorem dX8_step_55 : decode cX8_step 55 = .ok (.iconst 5, 1) := do_08 DX8_step_55
theorem dX8_step_56 : decode cX8_step 56 = .ok (.aload_n 0, 1) := do_2a DX8_step_56
theorem dX8_step_57 : decode cX8_step 57 = .ok (.iconst 5, 1) := do_08 DX8_step_57
theorem dX8_step_58 : decode cX8_step 58 = .ok (.iaload, 1) := do_2e DX8_step_58
theorem dX8_step_59 : decode cX8_step 59 = .ok (.iconst 1, 1) := do_04 DX8_step_59
theorem dX8_step_60 : decode cX8_step 60 = .ok (.iadd, 1) := do_60 DX8_step_60
theorem dX8_step_61 : decode cX8_step 61 = .ok (.iastore, 1) := do_4f DX8_step_61
theorem dX8_step_62 : decode cX8_step 62 = .ok (.astore_n 2, 1) := do_4d DX8_step_62
theorem dX8_step_63 : decode cX8_step 63 = .ok (.iconst 0, 1) := do_03 DX8_step_63
theorem dX8_step_64 : decode cX8_step 64 = .ok (.istore_n 3, 1) := do_3e DX8_step_64
theorem dX8_step_65 : decode cX8_step 65 = .ok (.iload_n 3, 1) := do_1d DX8_step_65
theorem dX8_step_66 : decode cX8_step 66 = .ok (.bipush 6, 2) := do_10 DX8_step_66 (by decide +kernel)
theorem dX8_step_68 : decode cX8_step 68 = .ok (.if_icmp .ge 15, 3) := do_a2 DX8_step_68 (by decide +kernel)
theorem dX8_step_71 : decode cX8_step 71 = .ok (.aload_n 0, 1) := do_2a DX8_step_71
theorem dX8_step_72 : decode cX8_step 72 = .ok (.iload_n 3, 1) := do_1d DX8_step_72
theorem dX8_step_73 : decode cX8_step 73 = .ok (.aload_n 2, 1) := do_2c DX8_step_73
theorem dX8_step_74 : decode cX8_step 74 = .ok (.iload_n 3, 1) := do_1d DX8_step_74
theorem dX8_step_75 : decode cX8_step 75 = .ok (.iaload, 1) := do_2e DX8_step_75
theorem dX8_step_76 : decode cX8_step 76 = .ok (.iastore, 1) := do_4f DX8_step_76
theorem dX8_step_77 : decode cX8_step 77 = .ok (.iinc 3 1, 3) := do_84 DX8_step_77
theorem dX8_step_80 : decode cX8_step 80 = .ok (.goto (-15), 3) := do_a7 DX8_step_80 (by decide +kernel)
theorem dX8_step_83 : decode cX8_step 83 = .ok (.return_, 1) := do_b1 DX8_step_83
def TX8_settled_27 : List UInt8 := []
def TX8_settled_26 : List UInt8 := 172 :: TX8_settled_27
def TX8_settled_25 : List UInt8 := 27 :: TX8_settled_26
def TX8_settled_22 : List UInt8 := 167 :: 255 :: 236 :: TX8_settled_25
def TX8_settled_19 : List UInt8 := 132 :: 1 :: 1 :: TX8_settled_22
def TX8_settled_16 : List UInt8 := 184 :: 1 :: 4 :: TX8_settled_19
def TX8_settled_15 : List UInt8 := 42 :: TX8_settled_16
def TX8_settled_12 : List UInt8 := 161 :: 0 :: 13 :: TX8_settled_15
def TX8_settled_11 : List UInt8 := 46 :: TX8_settled_12
def TX8_settled_10 : List UInt8 := 3 :: TX8_settled_11
def TX8_settled_9 : List UInt8 := 42 :: TX8_settled_10
def TX8_settled_8 : List UInt8 := 104 :: TX8_settled_9
def TX8_settled_7 : List UInt8 := 46 :: TX8_settled_8
def TX8_settled_6 : List UInt8 := 4 :: TX8_settled_7
def TX8_settled_5 : List UInt8 := 42 :: TX8_settled_6
def TX8_settled_4 : List UInt8 := 46 :: TX8_settled_5
def TX8_settled_3 : List UInt8 := 4 :: TX8_settled_4
def TX8_settled_2 : List UInt8 := 42 :: TX8_settled_3
def TX8_settled_1 : List UInt8 := 60 :: TX8_settled_2
def TX8_settled_0 : List UInt8 := 3 :: TX8_settled_1
theorem DX8_settled_0 : cX8_settled.data.toList.drop 0 = TX8_settled_0 := by decide +kernel
theorem DX8_settled_1 : cX8_settled.data.toList.drop 1 = TX8_settled_1 := dr1 DX8_settled_0
theorem DX8_settled_2 : cX8_settled.data.toList.drop 2 = TX8_settled_2 := dr1 DX8_settled_1
theorem DX8_settled_3 : cX8_settled.data.toList.drop 3 = TX8_settled_3 := dr1 DX8_settled_2
theorem DX8_settled_4 : cX8_settled.data.toList.drop 4 = TX8_settled_4 := dr1 DX8_settled_3
theorem DX8_settled_5 : cX8_settled.data.toList.drop 5 = TX8_settled_5 := dr1 DX8_settled_4
theorem DX8_settled_6 : cX8_settled.data.toList.drop 6 = TX8_settled_6 := dr1 DX8_settled_5
theorem DX8_settled_7 : cX8_settled.data.toList.drop 7 = TX8_settled_7 := dr1 DX8_settled_6
theorem DX8_settled_8 : cX8_settled.data.toList.drop 8 = TX8_settled_8 := dr1 DX8_settled_7
theorem DX8_settled_9 : cX8_settled.data.toList.drop 9 = TX8_settled_9 := dr1 DX8_settled_8
theorem DX8_settled_10 : cX8_settled.data.toList.drop 10 = TX8_settled_10 := dr1 DX8_settled_9
theorem DX8_settled_11 : cX8_settled.data.toList.drop 11 = TX8_settled_11 := dr1 DX8_settled_10
theorem DX8_settled_12 : cX8_settled.data.toList.drop 12 = TX8_settled_12 := dr1 DX8_settled_11
theorem DX8_settled_15 : cX8_settled.data.toList.drop 15 = TX8_settled_15 := dr3 DX8_settled_12
theorem DX8_settled_16 : cX8_settled.data.toList.drop 16 = TX8_settled_16 := dr1 DX8_settled_15
theorem DX8_settled_19 : cX8_settled.data.toList.drop 19 = TX8_settled_19 := dr3 DX8_settled_16
theorem DX8_settled_22 : cX8_settled.data.toList.drop 22 = TX8_settled_22 := dr3 DX8_settled_19
theorem DX8_settled_25 : cX8_settled.data.toList.drop 25 = TX8_settled_25 := dr3 DX8_settled_22
theorem DX8_settled_26 : cX8_settled.data.toList.drop 26 = TX8_settled_26 := dr1 DX8_settled_25
theorem dX8_settled_0 : decode cX8_settled 0 = .ok (.iconst 0, 1) := do_03 DX8_settled_0
theorem dX8_settled_1 : decode cX8_settled 1 = .ok (.istore_n 1, 1) := do_3c DX8_settled_1
theorem dX8_settled_2 : decode cX8_settled 2 = .ok (.aload_n 0, 1) := do_2a DX8_settled_2
theorem dX8_settled_3 : decode cX8_settled 3 = .ok (.iconst 1, 1) := do_04 DX8_settled_3
theorem dX8_settled_4 : decode cX8_settled 4 = .ok (.iaload, 1) := do_2e DX8_settled_4
theorem dX8_settled_5 : decode cX8_settled 5 = .ok (.aload_n 0, 1) := do_2a DX8_settled_5
theorem dX8_settled_6 : decode cX8_settled 6 = .ok (.iconst 1, 1) := do_04 DX8_settled_6
theorem dX8_settled_7 : decode cX8_settled 7 = .ok (.iaload, 1) := do_2e DX8_settled_7
theorem dX8_settled_8 : decode cX8_settled 8 = .ok (.imul, 1) := do_68 DX8_settled_8
theorem dX8_settled_9 : decode cX8_settled 9 = .ok (.aload_n 0, 1) := do_2a DX8_settled_9
theorem dX8_settled_10 : decode cX8_settled 10 = .ok (.iconst 0, 1) := do_03 DX8_settled_10
theorem dX8_settled_11 : decode cX8_settled 11 = .ok (.iaload, 1) := do_2e DX8_settled_11
theorem dX8_settled_12 : decode cX8_settled 12 = .ok (.if_icmp .lt 13, 3) := do_a1 DX8_settled_12 (by decide +kernel)
theorem dX8_settled_15 : decode cX8_settled 15 = .ok (.aload_n 0, 1) := do_2a DX8_settled_15
theorem dX8_settled_16 : decode cX8_settled 16 = .ok (.invokestatic 260, 3) := do_b8 DX8_settled_16
theorem dX8_settled_19 : decode cX8_settled 19 = .ok (.iinc 1 1, 3) := do_84 DX8_settled_19
theorem dX8_settled_22 : decode cX8_settled 22 = .ok (.goto (-20), 3) := do_a7 DX8_settled_22 (by decide +kernel)
theorem dX8_settled_25 : decode cX8_settled 25 = .ok (.iload_n 1, 1) := do_1b DX8_settled_25
theorem dX8_settled_26 : decode cX8_settled 26 = .ok (.ireturn, 1) := do_ac DX8_settled_26
def TX8_split_77 : List UInt8 := []
def TX8_split_76 : List UInt8 := 172 :: TX8_split_77
def TX8_split_73 : List UInt8 := 182 :: 0 :: 155 :: TX8_split_76
def TX8_split_70 : List UInt8 := 184 :: 0 :: 254 :: TX8_split_73
def TX8_split_69 : List UInt8 := 28 :: TX8_split_70
def TX8_split_68 : List UInt8 := 5 :: TX8_split_69
def TX8_split_67 : List UInt8 := 42 :: TX8_split_68
def TX8_split_66 : List UInt8 := 83 :: TX8_split_67
def TX8_split_63 : List UInt8 := 184 :: 0 :: 31 :: TX8_split_66
def TX8_split_62 : List UInt8 := 28 :: TX8_split_63
def TX8_split_61 : List UInt8 := 27 :: TX8_split_62
def TX8_split_58 : List UInt8 := 180 :: 0 :: 35 :: TX8_split_61
def TX8_split_57 : List UInt8 := 42 :: TX8_split_58
def TX8_split_56 : List UInt8 := 172 :: TX8_split_57
def TX8_split_53 : List UInt8 := 182 :: 0 :: 158 :: TX8_split_56
def TX8_split_52 : List UInt8 := 42 :: TX8_split_53
def TX8_split_49 : List UInt8 := 154 :: 0 :: 8 :: TX8_split_52
def TX8_split_46 : List UInt8 := 184 :: 1 :: 8 :: TX8_split_49
def TX8_split_45 : List UInt8 := 28 :: TX8_split_46
def TX8_split_42 : List UInt8 := 160 :: 0 :: 10 :: TX8_split_45
def TX8_split_41 : List UInt8 := 4 :: TX8_split_42
def TX8_split_40 : List UInt8 := 112 :: TX8_split_41
def TX8_split_39 : List UInt8 := 7 :: TX8_split_40
def TX8_split_38 : List UInt8 := 28 :: TX8_split_39
def TX8_split_37 : List UInt8 := 172 :: TX8_split_38
def TX8_split_36 : List UInt8 := 3 :: TX8_split_37
def TX8_split_33 : List UInt8 := 153 :: 0 :: 5 :: TX8_split_36
def TX8_split_30 : List UInt8 := 182 :: 0 :: 45 :: TX8_split_33
def TX8_split_29 : List UInt8 := 5 :: TX8_split_30
def TX8_split_28 : List UInt8 := 3 :: TX8_split_29
def TX8_split_25 : List UInt8 := 167 :: 0 :: 4 :: TX8_split_28
def TX8_split_24 : List UInt8 := 4 :: TX8_split_25
def TX8_split_21 : List UInt8 := 154 :: 0 :: 7 :: TX8_split_24
def TX8_split_18 : List UInt8 := 184 :: 0 :: 49 :: TX8_split_21
def TX8_split_15 : List UInt8 := 17 :: 3 :: 229 :: TX8_split_18
def TX8_split_14 : List UInt8 := 8 :: TX8_split_15
def TX8_split_13 : List UInt8 := 28 :: TX8_split_14
def TX8_split_12 : List UInt8 := 42 :: TX8_split_13
def TX8_split_9 : List UInt8 := 154 :: 0 :: 27 :: TX8_split_12
def TX8_split_6 : List UInt8 := 182 :: 0 :: 149 :: TX8_split_9
def TX8_split_5 : List UInt8 := 4 :: TX8_split_6
def TX8_split_2 : List UInt8 := 184 :: 0 :: 145 :: TX8_split_5
def TX8_split_1 : List UInt8 := 27 :: TX8_split_2
def TX8_split_0 : List UInt8 := 42 :: TX8_split_1
theorem DX8_split_0 : cX8_split.data.toList.drop 0 = TX8_split_0 := by decide +kernel
theorem DX8_split_1 : cX8_split.data.toList.drop 1 = TX8_split_1 := dr1 DX8_split_0
theorem DX8_split_2 : cX8_split.data.toList.drop 2 = TX8_split_2 := dr1 DX8_split_1
theorem DX8_split_5 : cX8_split.data.toList.drop 5 = TX8_split_5 := dr3 DX8_split_2
theorem DX8_split_6 : cX8_split.data.toList.drop 6 = TX8_split_6 := dr1 DX8_split_5
theorem DX8_split_9 : cX8_split.data.toList.drop 9 = TX8_split_9 := dr3 DX8_split_6
theorem DX8_split_12 : cX8_split.data.toList.drop 12 = TX8_split_12 := dr3 DX8_split_9
theorem DX8_split_13 : cX8_split.data.toList.drop 13 = TX8_split_13 := dr1 DX8_split_12
theorem DX8_split_14 : cX8_split.data.toList.drop 14 = TX8_split_14 := dr1 DX8_split_13
theorem DX8_split_15 : cX8_split.data.toList.drop 15 = TX8_split_15 := dr1 DX8_split_14
theorem DX8_split_18 : cX8_split.data.toList.drop 18 = TX8_split_18 := dr3 DX8_split_15
theorem DX8_split_21 : cX8_split.data.toList.drop 21 = TX8_split_21 := dr3 DX8_split_18
theorem DX8_split_24 : cX8_split.data.toList.drop 24 = TX8_split_24 := dr3 DX8_split_21
theorem DX8_split_25 : cX8_split.data.toList.drop 25 = TX8_split_25 := dr1 DX8_split_24
theorem DX8_split_28 : cX8_split.data.toList.drop 28 = TX8_split_28 := dr3 DX8_split_25
theorem DX8_split_29 : cX8_split.data.toList.drop 29 = TX8_split_29 := dr1 DX8_split_28
theorem DX8_split_30 : cX8_split.data.toList.drop 30 = TX8_split_30 := dr1 DX8_split_29
theorem DX8_split_33 : cX8_split.data.toList.drop 33 = TX8_split_33 := dr3 DX8_split_30
theorem DX8_split_36 : cX8_split.data.toList.drop 36 = TX8_split_36 := dr3 DX8_split_33
theorem DX8_split_37 : cX8_split.data.toList.drop 37 = TX8_split_37 := dr1 DX8_split_36
theorem DX8_split_38 : cX8_split.data.toList.drop 38 = TX8_split_38 := dr1 DX8_split_37
theorem DX8_split_39 : cX8_split.data.toList.drop 39 = TX8_split_39 := dr1 DX8_split_38
theorem DX8_split_40 : cX8_split.data.toList.drop 40 = TX8_split_40 := dr1 DX8_split_39
theorem DX8_split_41 : cX8_split.data.toList.drop 41 = TX8_split_41 := dr1 DX8_split_40
theorem DX8_split_42 : cX8_split.data.toList.drop 42 = TX8_split_42 := dr1 DX8_split_41
theorem DX8_split_45 : cX8_split.data.toList.drop 45 = TX8_split_45 := dr3 DX8_split_42
theorem DX8_split_46 : cX8_split.data.toList.drop 46 = TX8_split_46 := dr1 DX8_split_45
theorem DX8_split_49 : cX8_split.data.toList.drop 49 = TX8_split_49 := dr3 DX8_split_46
theorem DX8_split_52 : cX8_split.data.toList.drop 52 = TX8_split_52 := dr3 DX8_split_49
theorem DX8_split_53 : cX8_split.data.toList.drop 53 = TX8_split_53 := dr1 DX8_split_52
theorem DX8_split_56 : cX8_split.data.toList.drop 56 = TX8_split_56 := dr3 DX8_split_53
theorem DX8_split_57 : cX8_split.data.toList.drop 57 = TX8_split_57 := dr1 DX8_split_56
theorem DX8_split_58 : cX8_split.data.toList.drop 58 = TX8_split_58 := dr1 DX8_split_57
theorem DX8_split_61 : cX8_split.data.toList.drop 61 = TX8_split_61 := dr3 DX8_split_58
theorem DX8_split_62 : cX8_split.data.toList.drop 62 = TX8_split_62 := dr1 DX8_split_61
theorem DX8_split_63 : cX8_split.data.toList.drop 63 = TX8_split_63 := dr1 DX8_split_62
theorem DX8_split_66 : cX8_split.data.toList.drop 66 = TX8_split_66 := dr3 DX8_split_63
theorem DX8_split_67 : cX8_split.data.toList.drop 67 = TX8_split_67 := dr1 DX8_split_66
theorem DX8_split_68 : cX8_split.data.toList.drop 68 = TX8_split_68 := dr1 DX8_split_67
theorem DX8_split_69 : cX8_split.data.toList.drop 69 = TX8_split_69 := dr1 DX8_split_68
theorem DX8_split_70 : cX8_split.data.toList.drop 70 = TX8_split_70 := dr1 DX8_split_69
theorem DX8_split_73 : cX8_split.data.toList.drop 73 = TX8_split_73 := dr3 DX8_split_70
theorem DX8_split_76 : cX8_split.data.toList.drop 76 = TX8_split_76 := dr3 DX8_split_73
theorem dX8_split_0 : decode cX8_split 0 = .ok (.aload_n 0, 1) := do_2a DX8_split_0
theorem dX8_split_1 : decode cX8_split 1 = .ok (.iload_n 1, 1) := do_1b DX8_split_1
theorem dX8_split_2 : decode cX8_split 2 = .ok (.invokestatic 145, 3) := do_b8 DX8_split_2
theorem dX8_split_5 : decode cX8_split 5 = .ok (.iconst 1, 1) := do_04 DX8_split_5
theorem dX8_split_6 : decode cX8_split 6 = .ok (.invokevirtual 149, 3) := do_b6 DX8_split_6
theorem dX8_split_9 : decode cX8_split 9 = .ok (.ifCond .ne 27, 3) := do_9a DX8_split_9 (by decide +kernel)
theorem dX8_split_12 : decode cX8_split 12 = .ok (.aload_n 0, 1) := do_2a DX8_split_12
theorem dX8_split_13 : decode cX8_split 13 = .ok (.iload_n 2, 1) := do_1c DX8_split_13
theorem dX8_split_14 : decode cX8_split 14 = .ok (.iconst 5, 1) := do_08 DX8_split_14
theorem dX8_split_15 : decode cX8_split 15 = .ok (.sipush 997, 3) := do_11 DX8_split_15 (by decide +kernel)
theorem dX8_split_18 : decode cX8_split 18 = .ok (.invokestatic 49, 3) := do_b8 DX8_split_18
theorem dX8_split_21 : decode cX8_split 21 = .ok (.ifCond .ne 7, 3) := do_9a DX8_split_21 (by decide +kernel)
theorem dX8_split_24 : decode cX8_split 24 = .ok (.iconst 1, 1) := do_04 DX8_split_24
theorem dX8_split_25 : decode cX8_split 25 = .ok (.goto 4, 3) := do_a7 DX8_split_25 (by decide +kernel)
theorem dX8_split_28 : decode cX8_split 28 = .ok (.iconst 0, 1) := do_03 DX8_split_28
theorem dX8_split_29 : decode cX8_split 29 = .ok (.iconst 2, 1) := do_05 DX8_split_29
theorem dX8_split_30 : decode cX8_split 30 = .ok (.invokevirtual 45, 3) := do_b6 DX8_split_30
theorem dX8_split_33 : decode cX8_split 33 = .ok (.ifCond .eq 5, 3) := do_99 DX8_split_33 (by decide +kernel)
theorem dX8_split_36 : decode cX8_split 36 = .ok (.iconst 0, 1) := do_03 DX8_split_36
theorem dX8_split_37 : decode cX8_split 37 = .ok (.ireturn, 1) := do_ac DX8_split_37
theorem dX8_split_38 : decode cX8_split 38 = .ok (.iload_n 2, 1) := do_1c DX8_split_38
theorem dX8_split_39 : decode cX8_split 39 = .ok (.iconst 4, 1) := do_07 DX8_split_39
theorem dX8_split_40 : decode cX8_split 40 = .ok (.irem, 1) := do_70 DX8_split_40
theorem dX8_split_41 : decode cX8_split 41 = .ok (.iconst 1, 1) := do_04 DX8_split_41
theorem dX8_split_42 : decode cX8_split 42 = .ok (.if_icmp .ne 10, 3) := do_a0 DX8_split_42 (by decide +kernel)
theorem dX8_split_45 : decode cX8_split 45 = .ok (.iload_n 2, 1) := do_1c DX8_split_45
theorem dX8_split_46 : decode cX8_split 46 = .ok (.invokestatic 264, 3) := do_b8 DX8_split_46
theorem dX8_split_49 : decode cX8_split 49 = .ok (.ifCond .ne 8, 3) := do_9a DX8_split_49 (by decide +kernel)
theorem dX8_split_52 : decode cX8_split 52 = .ok (.aload_n 0, 1) := do_2a DX8_split_52
theorem dX8_split_53 : decode cX8_split 53 = .ok (.invokevirtual 158, 3) := do_b6 DX8_split_53
theorem dX8_split_56 : decode cX8_split 56 = .ok (.ireturn, 1) := do_ac DX8_split_56
theorem dX8_split_57 : decode cX8_split 57 = .ok (.aload_n 0, 1) := do_2a DX8_split_57
theorem dX8_split_58 : decode cX8_split 58 = .ok (.getfield 35, 3) := do_b4 DX8_split_58
theorem dX8_split_61 : decode cX8_split 61 = .ok (.iload_n 1, 1) := do_1b DX8_split_61
theorem dX8_split_62 : decode cX8_split 62 = .ok (.iload_n 2, 1) := do_1c DX8_split_62
theorem dX8_split_63 : decode cX8_split 63 = .ok (.invokestatic 31, 3) := do_b8 DX8_split_63
theorem dX8_split_66 : decode cX8_split 66 = .ok (.aastore, 1) := do_53 DX8_split_66
theorem dX8_split_67 : decode cX8_split 67 = .ok (.aload_n 0, 1) := do_2a DX8_split_67
theorem dX8_split_68 : decode cX8_split 68 = .ok (.iconst 2, 1) := do_05 DX8_split_68
theorem dX8_split_69 : decode cX8_split 69 = .ok (.iload_n 2, 1) := do_1c DX8_split_69
theorem dX8_split_70 : decode cX8_split 70 = .ok (.invokestatic 254, 3) := do_b8 DX8_split_70
theorem dX8_split_73 : decode cX8_split 73 = .ok (.invokevirtual 155, 3) := do_b6 DX8_split_73
theorem dX8_split_76 : decode cX8_split 76 = .ok (.ireturn, 1) := do_ac DX8_split_76
def TX8_euclid_53 : List UInt8 := []
def TX8_euclid_52 : List UInt8 := 172 :: TX8_euclid_53
def TX8_euclid_49 : List UInt8 := 182 :: 0 :: 155 :: TX8_euclid_52
def TX8_euclid_48 : List UInt8 := 46 :: TX8_euclid_49
def TX8_euclid_47 : List UInt8 := 5 :: TX8_euclid_48
def TX8_euclid_46 : List UInt8 := 50 :: TX8_euclid_47
def TX8_euclid_45 : List UInt8 := 27 :: TX8_euclid_46
def TX8_euclid_42 : List UInt8 := 180 :: 0 :: 35 :: TX8_euclid_45
def TX8_euclid_41 : List UInt8 := 42 :: TX8_euclid_42
def TX8_euclid_40 : List UInt8 := 5 :: TX8_euclid_41
def TX8_euclid_39 : List UInt8 := 42 :: TX8_euclid_40
def TX8_euclid_36 : List UInt8 := 184 :: 1 :: 4 :: TX8_euclid_39
def TX8_euclid_35 : List UInt8 := 50 :: TX8_euclid_36
def TX8_euclid_34 : List UInt8 := 27 :: TX8_euclid_35
def TX8_euclid_31 : List UInt8 := 180 :: 0 :: 35 :: TX8_euclid_34
def TX8_euclid_30 : List UInt8 := 42 :: TX8_euclid_31
def TX8_euclid_29 : List UInt8 := 172 :: TX8_euclid_30
def TX8_euclid_26 : List UInt8 := 182 :: 0 :: 158 :: TX8_euclid_29
def TX8_euclid_25 : List UInt8 := 42 :: TX8_euclid_26
def TX8_euclid_22 : List UInt8 := 154 :: 0 :: 8 :: TX8_euclid_25
def TX8_euclid_21 : List UInt8 := 46 :: TX8_euclid_22
def TX8_euclid_20 : List UInt8 := 5 :: TX8_euclid_21
def TX8_euclid_19 : List UInt8 := 50 :: TX8_euclid_20
def TX8_euclid_18 : List UInt8 := 27 :: TX8_euclid_19
def TX8_euclid_15 : List UInt8 := 180 :: 0 :: 35 :: TX8_euclid_18
def TX8_euclid_14 : List UInt8 := 42 :: TX8_euclid_15
def TX8_euclid_13 : List UInt8 := 172 :: TX8_euclid_14
def TX8_euclid_12 : List UInt8 := 3 :: TX8_euclid_13
def TX8_euclid_9 : List UInt8 := 153 :: 0 :: 5 :: TX8_euclid_12
def TX8_euclid_6 : List UInt8 := 182 :: 0 :: 149 :: TX8_euclid_9
def TX8_euclid_5 : List UInt8 := 4 :: TX8_euclid_6
def TX8_euclid_2 : List UInt8 := 184 :: 0 :: 145 :: TX8_euclid_5
def TX8_euclid_1 : List UInt8 := 27 :: TX8_euclid_2
def TX8_euclid_0 : List UInt8 := 42 :: TX8_euclid_1
theorem DX8_euclid_0 : cX8_euclid.data.toList.drop 0 = TX8_euclid_0 := by decide +kernel
theorem DX8_euclid_1 : cX8_euclid.data.toList.drop 1 = TX8_euclid_1 := dr1 DX8_euclid_0
theorem DX8_euclid_2 : cX8_euclid.data.toList.drop 2 = TX8_euclid_2 := dr1 DX8_euclid_1
theorem DX8_euclid_5 : cX8_euclid.data.toList.drop 5 = TX8_euclid_5 := dr3 DX8_euclid_2
theorem DX8_euclid_6 : cX8_euclid.data.toList.drop 6 = TX8_euclid_6 := dr1 DX8_euclid_5
theorem DX8_euclid_9 : cX8_euclid.data.toList.drop 9 = TX8_euclid_9 := dr3 DX8_euclid_6
theorem DX8_euclid_12 : cX8_euclid.data.toList.drop 12 = TX8_euclid_12 := dr3 DX8_euclid_9
theorem DX8_euclid_13 : cX8_euclid.data.toList.drop 13 = TX8_euclid_13 := dr1 DX8_euclid_12
theorem DX8_euclid_14 : cX8_euclid.data.toList.drop 14 = TX8_euclid_14 := dr1 DX8_euclid_13
theorem DX8_euclid_15 : cX8_euclid.data.toList.drop 15 = TX8_euclid_15 := dr1 DX8_euclid_14
theorem DX8_euclid_18 : cX8_euclid.data.toList.drop 18 = TX8_euclid_18 := dr3 DX8_euclid_15
theorem DX8_euclid_19 : cX8_euclid.data.toList.drop 19 = TX8_euclid_19 := dr1 DX8_euclid_18
theorem DX8_euclid_20 : cX8_euclid.data.toList.drop 20 = TX8_euclid_20 := dr1 DX8_euclid_19
theorem DX8_euclid_21 : cX8_euclid.data.toList.drop 21 = TX8_euclid_21 := dr1 DX8_euclid_20
theorem DX8_euclid_22 : cX8_euclid.data.toList.drop 22 = TX8_euclid_22 := dr1 DX8_euclid_21
theorem DX8_euclid_25 : cX8_euclid.data.toList.drop 25 = TX8_euclid_25 := dr3 DX8_euclid_22
theorem DX8_euclid_26 : cX8_euclid.data.toList.drop 26 = TX8_euclid_26 := dr1 DX8_euclid_25
theorem DX8_euclid_29 : cX8_euclid.data.toList.drop 29 = TX8_euclid_29 := dr3 DX8_euclid_26
theorem DX8_euclid_30 : cX8_euclid.data.toList.drop 30 = TX8_euclid_30 := dr1 DX8_euclid_29
theorem DX8_euclid_31 : cX8_euclid.data.toList.drop 31 = TX8_euclid_31 := dr1 DX8_euclid_30
theorem DX8_euclid_34 : cX8_euclid.data.toList.drop 34 = TX8_euclid_34 := dr3 DX8_euclid_31
theorem DX8_euclid_35 : cX8_euclid.data.toList.drop 35 = TX8_euclid_35 := dr1 DX8_euclid_34
theorem DX8_euclid_36 : cX8_euclid.data.toList.drop 36 = TX8_euclid_36 := dr1 DX8_euclid_35
theorem DX8_euclid_39 : cX8_euclid.data.toList.drop 39 = TX8_euclid_39 := dr3 DX8_euclid_36
theorem DX8_euclid_40 : cX8_euclid.data.toList.drop 40 = TX8_euclid_40 := dr1 DX8_euclid_39
theorem DX8_euclid_41 : cX8_euclid.data.toList.drop 41 = TX8_euclid_41 := dr1 DX8_euclid_40
theorem DX8_euclid_42 : cX8_euclid.data.toList.drop 42 = TX8_euclid_42 := dr1 DX8_euclid_41
theorem DX8_euclid_45 : cX8_euclid.data.toList.drop 45 = TX8_euclid_45 := dr3 DX8_euclid_42
theorem DX8_euclid_46 : cX8_euclid.data.toList.drop 46 = TX8_euclid_46 := dr1 DX8_euclid_45
theorem DX8_euclid_47 : cX8_euclid.data.toList.drop 47 = TX8_euclid_47 := dr1 DX8_euclid_46
theorem DX8_euclid_48 : cX8_euclid.data.toList.drop 48 = TX8_euclid_48 := dr1 DX8_euclid_47
theorem DX8_euclid_49 : cX8_euclid.data.toList.drop 49 = TX8_euclid_49 := dr1 DX8_euclid_48
theorem DX8_euclid_52 : cX8_euclid.data.toList.drop 52 = TX8_euclid_52 := dr3 DX8_euclid_49
theorem dX8_euclid_0 : decode cX8_euclid 0 = .ok (.aload_n 0, 1) := do_2a DX8_euclid_0
theorem dX8_euclid_1 : decode cX8_euclid 1 = .ok (.iload_n 1, 1) := do_1b DX8_euclid_1
theorem dX8_euclid_2 : decode cX8_euclid 2 = .ok (.invokestatic 145, 3) := do_b8 DX8_euclid_2
theorem dX8_euclid_5 : decode cX8_euclid 5 = .ok (.iconst 1, 1) := do_04 DX8_euclid_5
theorem dX8_euclid_6 : decode cX8_euclid 6 = .ok (.invokevirtual 149, 3) := do_b6 DX8_euclid_6
theorem dX8_euclid_9 : decode cX8_euclid 9 = .ok (.ifCond .eq 5, 3) := do_99 DX8_euclid_9 (by decide +kernel)
theorem dX8_euclid_12 : decode cX8_euclid 12 = .ok (.iconst 0, 1) := do_03 DX8_euclid_12
theorem dX8_euclid_13 : decode cX8_euclid 13 = .ok (.ireturn, 1) := do_ac DX8_euclid_13
theorem dX8_euclid_14 : decode cX8_euclid 14 = .ok (.aload_n 0, 1) := do_2a DX8_euclid_14
theorem dX8_euclid_15 : decode cX8_euclid 15 = .ok (.getfield 35, 3) := do_b4 DX8_euclid_15
theorem dX8_euclid_18 : decode cX8_euclid 18 = .ok (.iload_n 1, 1) := do_1b DX8_euclid_18
theorem dX8_euclid_19 : decode cX8_euclid 19 = .ok (.aaload, 1) := do_32 DX8_euclid_19
theorem dX8_euclid_20 : decode cX8_euclid 20 = .ok (.iconst 2, 1) := do_05 DX8_euclid_20
theorem dX8_euclid_21 : decode cX8_euclid 21 = .ok (.iaload, 1) := do_2e DX8_euclid_21
theorem dX8_euclid_22 : decode cX8_euclid 22 = .ok (.ifCond .ne 8, 3) := do_9a DX8_euclid_22 (by decide +kernel)
theorem dX8_euclid_25 : decode cX8_euclid 25 = .ok (.aload_n 0, 1) := do_2a DX8_euclid_25
theorem dX8_euclid_26 : decode cX8_euclid 26 = .ok (.invokevirtual 158, 3) := do_b6 DX8_euclid_26
theorem dX8_euclid_29 : decode cX8_euclid 29 = .ok (.ireturn, 1) := do_ac DX8_euclid_29
theorem dX8_euclid_30 : decode cX8_euclid 30 = .ok (.aload_n 0, 1) := do_2a DX8_euclid_30
theorem dX8_euclid_31 : decode cX8_euclid 31 = .ok (.getfield 35, 3) := do_b4 DX8_euclid_31
theorem dX8_euclid_34 : decode cX8_euclid 34 = .ok (.iload_n 1, 1) := do_1b DX8_euclid_34
theorem dX8_euclid_35 : decode cX8_euclid 35 = .ok (.aaload, 1) := do_32 DX8_euclid_35
theorem dX8_euclid_36 : decode cX8_euclid 36 = .ok (.invokestatic 260, 3) := do_b8 DX8_euclid_36
theorem dX8_euclid_39 : decode cX8_euclid 39 = .ok (.aload_n 0, 1) := do_2a DX8_euclid_39
theorem dX8_euclid_40 : decode cX8_euclid 40 = .ok (.iconst 2, 1) := do_05 DX8_euclid_40
theorem dX8_euclid_41 : decode cX8_euclid 41 = .ok (.aload_n 0, 1) := do_2a DX8_euclid_41
theorem dX8_euclid_42 : decode cX8_euclid 42 = .ok (.getfield 35, 3) := do_b4 DX8_euclid_42
theorem dX8_euclid_45 : decode cX8_euclid 45 = .ok (.iload_n 1, 1) := do_1b DX8_euclid_45
theorem dX8_euclid_46 : decode cX8_euclid 46 = .ok (.aaload, 1) := do_32 DX8_euclid_46
theorem dX8_euclid_47 : decode cX8_euclid 47 = .ok (.iconst 2, 1) := do_05 DX8_euclid_47
theorem dX8_euclid_48 : decode cX8_euclid 48 = .ok (.iaload, 1) := do_2e DX8_euclid_48
theorem dX8_euclid_49 : decode cX8_euclid 49 = .ok (.invokevirtual 155, 3) := do_b6 DX8_euclid_49
theorem dX8_euclid_52 : decode cX8_euclid 52 = .ok (.ireturn, 1) := do_ac DX8_euclid_52
def TX8_settle_31 : List UInt8 := []
def TX8_settle_30 : List UInt8 := 172 :: TX8_settle_31
def TX8_settle_27 : List UInt8 := 182 :: 0 :: 155 :: TX8_settle_30
def TX8_settle_24 : List UInt8 := 184 :: 1 :: 11 :: TX8_settle_27
def TX8_settle_23 : List UInt8 := 50 :: TX8_settle_24
def TX8_settle_22 : List UInt8 := 27 :: TX8_settle_23
def TX8_settle_19 : List UInt8 := 180 :: 0 :: 35 :: TX8_settle_22
def TX8_settle_18 : List UInt8 := 42 :: TX8_settle_19
def TX8_settle_17 : List UInt8 := 5 :: TX8_settle_18
def TX8_settle_16 : List UInt8 := 42 :: TX8_settle_17
def TX8_settle_13 : List UInt8 := 167 :: 0 :: 17 :: TX8_settle_16
def TX8_settle_12 : List UInt8 := 3 :: TX8_settle_13
def TX8_settle_9 : List UInt8 := 153 :: 0 :: 7 :: TX8_settle_12
def TX8_settle_6 : List UInt8 := 182 :: 0 :: 149 :: TX8_settle_9
def TX8_settle_5 : List UInt8 := 4 :: TX8_settle_6
def TX8_settle_2 : List UInt8 := 184 :: 0 :: 145 :: TX8_settle_5
def TX8_settle_1 : List UInt8 := 27 :: TX8_settle_2
def TX8_settle_0 : List UInt8 := 42 :: TX8_settle_1
theorem DX8_settle_0 : cX8_settle.data.toList.drop 0 = TX8_settle_0 := by decide +kernel
theorem DX8_settle_1 : cX8_settle.data.toList.drop 1 = TX8_settle_1 := dr1 DX8_settle_0
theorem DX8_settle_2 : cX8_settle.data.toList.drop 2 = TX8_settle_2 := dr1 DX8_settle_1
theorem DX8_settle_5 : cX8_settle.data.toList.drop 5 = TX8_settle_5 := dr3 DX8_settle_2
theorem DX8_settle_6 : cX8_settle.data.toList.drop 6 = TX8_settle_6 := dr1 DX8_settle_5
theorem DX8_settle_9 : cX8_settle.data.toList.drop 9 = TX8_settle_9 := dr3 DX8_settle_6
theorem DX8_settle_12 : cX8_settle.data.toList.drop 12 = TX8_settle_12 := dr3 DX8_settle_9
theorem DX8_settle_13 : cX8_settle.data.toList.drop 13 = TX8_settle_13 := dr1 DX8_settle_12
theorem DX8_settle_16 : cX8_settle.data.toList.drop 16 = TX8_settle_16 := dr3 DX8_settle_13
theorem DX8_settle_17 : cX8_settle.data.toList.drop 17 = TX8_settle_17 := dr1 DX8_settle_16
theorem DX8_settle_18 : cX8_settle.data.toList.drop 18 = TX8_settle_18 := dr1 DX8_settle_17
theorem DX8_settle_19 : cX8_settle.data.toList.drop 19 = TX8_settle_19 := dr1 DX8_settle_18
theorem DX8_settle_22 : cX8_settle.data.toList.drop 22 = TX8_settle_22 := dr3 DX8_settle_19
theorem DX8_settle_23 : cX8_settle.data.toList.drop 23 = TX8_settle_23 := dr1 DX8_settle_22
theorem DX8_settle_24 : cX8_settle.data.toList.drop 24 = TX8_settle_24 := dr1 DX8_settle_23
theorem DX8_settle_27 : cX8_settle.data.toList.drop 27 = TX8_settle_27 := dr3 DX8_settle_24
theorem DX8_settle_30 : cX8_settle.data.toList.drop 30 = TX8_settle_30 := dr3 DX8_settle_27
theorem dX8_settle_0 : decode cX8_settle 0 = .ok (.aload_n 0, 1) := do_2a DX8_settle_0
theorem dX8_settle_1 : decode cX8_settle 1 = .ok (.iload_n 1, 1) := do_1b DX8_settle_1
theorem dX8_settle_2 : decode cX8_settle 2 = .ok (.invokestatic 145, 3) := do_b8 DX8_settle_2
theorem dX8_settle_5 : decode cX8_settle 5 = .ok (.iconst 1, 1) := do_04 DX8_settle_5
theorem dX8_settle_6 : decode cX8_settle 6 = .ok (.invokevirtual 149, 3) := do_b6 DX8_settle_6
theorem dX8_settle_9 : decode cX8_settle 9 = .ok (.ifCond .eq 7, 3) := do_99 DX8_settle_9 (by decide +kernel)
theorem dX8_settle_12 : decode cX8_settle 12 = .ok (.iconst 0, 1) := do_03 DX8_settle_12
theorem dX8_settle_13 : decode cX8_settle 13 = .ok (.goto 17, 3) := do_a7 DX8_settle_13 (by decide +kernel)
theorem dX8_settle_16 : decode cX8_settle 16 = .ok (.aload_n 0, 1) := do_2a DX8_settle_16
theorem dX8_settle_17 : decode cX8_settle 17 = .ok (.iconst 2, 1) := do_05 DX8_settle_17
theorem dX8_settle_18 : decode cX8_settle 18 = .ok (.aload_n 0, 1) := do_2a DX8_settle_18
theorem dX8_settle_19 : decode cX8_settle 19 = .ok (.getfield 35, 3) := do_b4 DX8_settle_19
theorem dX8_settle_22 : decode cX8_settle 22 = .ok (.iload_n 1, 1) := do_1b DX8_settle_22
theorem dX8_settle_23 : decode cX8_settle 23 = .ok (.aaload, 1) := do_32 DX8_settle_23
theorem dX8_settle_24 : decode cX8_settle 24 = .ok (.invokestatic 267, 3) := do_b8 DX8_settle_24
theorem dX8_settle_27 : decode cX8_settle 27 = .ok (.invokevirtual 155, 3) := do_b6 DX8_settle_27
theorem dX8_settle_30 : decode cX8_settle 30 = .ok (.ireturn, 1) := do_ac DX8_settle_30
def TX8_splitOf_51 : List UInt8 := []
def TX8_splitOf_50 : List UInt8 := 172 :: TX8_splitOf_51
def TX8_splitOf_49 : List UInt8 := 46 :: TX8_splitOf_50
def TX8_splitOf_48 : List UInt8 := 100 :: TX8_splitOf_49
def TX8_splitOf_47 : List UInt8 := 5 :: TX8_splitOf_48
def TX8_splitOf_46 : List UInt8 := 28 :: TX8_splitOf_47
def TX8_splitOf_45 : List UInt8 := 45 :: TX8_splitOf_46
def TX8_splitOf_42 : List UInt8 := 167 :: 0 :: 8 :: TX8_splitOf_45
def TX8_splitOf_39 : List UInt8 := 184 :: 1 :: 1 :: TX8_splitOf_42
def TX8_splitOf_38 : List UInt8 := 46 :: TX8_splitOf_39
def TX8_splitOf_37 : List UInt8 := 3 :: TX8_splitOf_38
def TX8_splitOf_36 : List UInt8 := 45 :: TX8_splitOf_37
def TX8_splitOf_33 : List UInt8 := 160 :: 0 :: 12 :: TX8_splitOf_36
def TX8_splitOf_32 : List UInt8 := 5 :: TX8_splitOf_33
def TX8_splitOf_31 : List UInt8 := 28 :: TX8_splitOf_32
def TX8_splitOf_28 : List UInt8 := 167 :: 0 :: 22 :: TX8_splitOf_31
def TX8_splitOf_25 : List UInt8 := 184 :: 0 :: 254 :: TX8_splitOf_28
def TX8_splitOf_24 : List UInt8 := 46 :: TX8_splitOf_25
def TX8_splitOf_23 : List UInt8 := 3 :: TX8_splitOf_24
def TX8_splitOf_22 : List UInt8 := 45 :: TX8_splitOf_23
def TX8_splitOf_19 : List UInt8 := 160 :: 0 :: 12 :: TX8_splitOf_22
def TX8_splitOf_18 : List UInt8 := 4 :: TX8_splitOf_19
def TX8_splitOf_17 : List UInt8 := 28 :: TX8_splitOf_18
def TX8_splitOf_14 : List UInt8 := 167 :: 0 :: 36 :: TX8_splitOf_17
def TX8_splitOf_13 : List UInt8 := 46 :: TX8_splitOf_14
def TX8_splitOf_12 : List UInt8 := 3 :: TX8_splitOf_13
def TX8_splitOf_11 : List UInt8 := 45 :: TX8_splitOf_12
def TX8_splitOf_8 : List UInt8 := 154 :: 0 :: 9 :: TX8_splitOf_11
def TX8_splitOf_7 : List UInt8 := 28 :: TX8_splitOf_8
def TX8_splitOf_6 : List UInt8 := 78 :: TX8_splitOf_7
def TX8_splitOf_5 : List UInt8 := 50 :: TX8_splitOf_6
def TX8_splitOf_4 : List UInt8 := 27 :: TX8_splitOf_5
def TX8_splitOf_1 : List UInt8 := 180 :: 0 :: 35 :: TX8_splitOf_4
def TX8_splitOf_0 : List UInt8 := 42 :: TX8_splitOf_1
theorem DX8_splitOf_0 : cX8_splitOf.data.toList.drop 0 = TX8_splitOf_0 := by decide +kernel
theorem DX8_splitOf_1 : cX8_splitOf.data.toList.drop 1 = TX8_splitOf_1 := dr1 DX8_splitOf_0
theorem DX8_splitOf_4 : cX8_splitOf.data.toList.drop 4 = TX8_splitOf_4 := dr3 DX8_splitOf_1
theorem DX8_splitOf_5 : cX8_splitOf.data.toList.drop 5 = TX8_splitOf_5 := dr1 DX8_splitOf_4
theorem DX8_splitOf_6 : cX8_splitOf.data.toList.drop 6 = TX8_splitOf_6 := dr1 DX8_splitOf_5
theorem DX8_splitOf_7 : cX8_splitOf.data.toList.drop 7 = TX8_splitOf_7 := dr1 DX8_splitOf_6
theorem DX8_splitOf_8 : cX8_splitOf.data.toList.drop 8 = TX8_splitOf_8 := dr1 DX8_splitOf_7
theorem DX8_splitOf_11 : cX8_splitOf.data.toList.drop 11 = TX8_splitOf_11 := dr3 DX8_splitOf_8
theorem DX8_splitOf_12 : cX8_splitOf.data.toList.drop 12 = TX8_splitOf_12 := dr1 DX8_splitOf_11
theorem DX8_splitOf_13 : cX8_splitOf.data.toList.drop 13 = TX8_splitOf_13 := dr1 DX8_splitOf_12
theorem DX8_splitOf_14 : cX8_splitOf.data.toList.drop 14 = TX8_splitOf_14 := dr1 DX8_splitOf_13
theorem DX8_splitOf_17 : cX8_splitOf.data.toList.drop 17 = TX8_splitOf_17 := dr3 DX8_splitOf_14
theorem DX8_splitOf_18 : cX8_splitOf.data.toList.drop 18 = TX8_splitOf_18 := dr1 DX8_splitOf_17
theorem DX8_splitOf_19 : cX8_splitOf.data.toList.drop 19 = TX8_splitOf_19 := dr1 DX8_splitOf_18
theorem DX8_splitOf_22 : cX8_splitOf.data.toList.drop 22 = TX8_splitOf_22 := dr3 DX8_splitOf_19
theorem DX8_splitOf_23 : cX8_splitOf.data.toList.drop 23 = TX8_splitOf_23 := dr1 DX8_splitOf_22
theorem DX8_splitOf_24 : cX8_splitOf.data.toList.drop 24 = TX8_splitOf_24 := dr1 DX8_splitOf_23
theorem DX8_splitOf_25 : cX8_splitOf.data.toList.drop 25 = TX8_splitOf_25 := dr1 DX8_splitOf_24
theorem DX8_splitOf_28 : cX8_splitOf.data.toList.drop 28 = TX8_splitOf_28 := dr3 DX8_splitOf_25
theorem DX8_splitOf_31 : cX8_splitOf.data.toList.drop 31 = TX8_splitOf_31 := dr3 DX8_splitOf_28
theorem DX8_splitOf_32 : cX8_splitOf.data.toList.drop 32 = TX8_splitOf_32 := dr1 DX8_splitOf_31
theorem DX8_splitOf_33 : cX8_splitOf.data.toList.drop 33 = TX8_splitOf_33 := dr1 DX8_splitOf_32
theorem DX8_splitOf_36 : cX8_splitOf.data.toList.drop 36 = TX8_splitOf_36 := dr3 DX8_splitOf_33
theorem DX8_splitOf_37 : cX8_splitOf.data.toList.drop 37 = TX8_splitOf_37 := dr1 DX8_splitOf_36
theorem DX8_splitOf_38 : cX8_splitOf.data.toList.drop 38 = TX8_splitOf_38 := dr1 DX8_splitOf_37
theorem DX8_splitOf_39 : cX8_splitOf.data.toList.drop 39 = TX8_splitOf_39 := dr1 DX8_splitOf_38
theorem DX8_splitOf_42 : cX8_splitOf.data.toList.drop 42 = TX8_splitOf_42 := dr3 DX8_splitOf_39
theorem DX8_splitOf_45 : cX8_splitOf.data.toList.drop 45 = TX8_splitOf_45 := dr3 DX8_splitOf_42
theorem DX8_splitOf_46 : cX8_splitOf.data.toList.drop 46 = TX8_splitOf_46 := dr1 DX8_splitOf_45
theorem DX8_splitOf_47 : cX8_splitOf.data.toList.drop 47 = TX8_splitOf_47 := dr1 DX8_splitOf_46
theorem DX8_splitOf_48 : cX8_splitOf.data.toList.drop 48 = TX8_splitOf_48 := dr1 DX8_splitOf_47
theorem DX8_splitOf_49 : cX8_splitOf.data.toList.drop 49 = TX8_splitOf_49 := dr1 DX8_splitOf_48
theorem DX8_splitOf_50 : cX8_splitOf.data.toList.drop 50 = TX8_splitOf_50 := dr1 DX8_splitOf_49
theorem dX8_splitOf_0 : decode cX8_splitOf 0 = .ok (.aload_n 0, 1) := do_2a DX8_splitOf_0
theorem dX8_splitOf_1 : decode cX8_splitOf 1 = .ok (.getfield 35, 3) := do_b4 DX8_splitOf_1
theorem dX8_splitOf_4 : decode cX8_splitOf 4 = .ok (.iload_n 1, 1) := do_1b DX8_splitOf_4
theorem dX8_splitOf_5 : decode cX8_splitOf 5 = .ok (.aaload, 1) := do_32 DX8_splitOf_5
theorem dX8_splitOf_6 : decode cX8_splitOf 6 = .ok (.astore_n 3, 1) := do_4e DX8_splitOf_6
theorem dX8_splitOf_7 : decode cX8_splitOf 7 = .ok (.iload_n 2, 1) := do_1c DX8_splitOf_7
theorem dX8_splitOf_8 : decode cX8_splitOf 8 = .ok (.ifCond .ne 9, 3) := do_9a DX8_splitOf_8 (by decide +kernel)
theorem dX8_splitOf_11 : decode cX8_splitOf 11 = .ok (.aload_n 3, 1) := do_2d DX8_splitOf_11
theorem dX8_splitOf_12 : decode cX8_splitOf 12 = .ok (.iconst 0, 1) := do_03 DX8_splitOf_12
theorem dX8_splitOf_13 : decode cX8_splitOf 13 = .ok (.iaload, 1) := do_2e DX8_splitOf_13
theorem dX8_splitOf_14 : decode cX8_splitOf 14 = .ok (.goto 36, 3) := do_a7 DX8_splitOf_14 (by decide +kernel)
theorem dX8_splitOf_17 : decode cX8_splitOf 17 = .ok (.iload_n 2, 1) := do_1c DX8_splitOf_17
theorem dX8_splitOf_18 : decode cX8_splitOf 18 = .ok (.iconst 1, 1) := do_04 DX8_splitOf_18
theorem dX8_splitOf_19 : decode cX8_splitOf 19 = .ok (.if_icmp .ne 12, 3) := do_a0 DX8_splitOf_19 (by decide +kernel)
theorem dX8_splitOf_22 : decode cX8_splitOf 22 = .ok (.aload_n 3, 1) := do_2d DX8_splitOf_22
theorem dX8_splitOf_23 : decode cX8_splitOf 23 = .ok (.iconst 0, 1) := do_03 DX8_splitOf_23
theorem dX8_splitOf_24 : decode cX8_splitOf 24 = .ok (.iaload, 1) := do_2e DX8_splitOf_24
theorem dX8_splitOf_25 : decode cX8_splitOf 25 = .ok (.invokestatic 254, 3) := do_b8 DX8_splitOf_25
theorem dX8_splitOf_28 : decode cX8_splitOf 28 = .ok (.goto 22, 3) := do_a7 DX8_splitOf_28 (by decide +kernel)
theorem dX8_splitOf_31 : decode cX8_splitOf 31 = .ok (.iload_n 2, 1) := do_1c DX8_splitOf_31
theorem dX8_splitOf_32 : decode cX8_splitOf 32 = .ok (.iconst 2, 1) := do_05 DX8_splitOf_32
theorem dX8_splitOf_33 : decode cX8_splitOf 33 = .ok (.if_icmp .ne 12, 3) := do_a0 DX8_splitOf_33 (by decide +kernel)
theorem dX8_splitOf_36 : decode cX8_splitOf 36 = .ok (.aload_n 3, 1) := do_2d DX8_splitOf_36
theorem dX8_splitOf_37 : decode cX8_splitOf 37 = .ok (.iconst 0, 1) := do_03 DX8_splitOf_37
theorem dX8_splitOf_38 : decode cX8_splitOf 38 = .ok (.iaload, 1) := do_2e DX8_splitOf_38
theorem dX8_splitOf_39 : decode cX8_splitOf 39 = .ok (.invokestatic 257, 3) := do_b8 DX8_splitOf_39
theorem dX8_splitOf_42 : decode cX8_splitOf 42 = .ok (.goto 8, 3) := do_a7 DX8_splitOf_42 (by decide +kernel)
theorem dX8_splitOf_45 : decode cX8_splitOf 45 = .ok (.aload_n 3, 1) := do_2d DX8_splitOf_45
theorem dX8_splitOf_46 : decode cX8_splitOf 46 = .ok (.iload_n 2, 1) := do_1c DX8_splitOf_46
theorem dX8_splitOf_47 : decode cX8_splitOf 47 = .ok (.iconst 2, 1) := do_05 DX8_splitOf_47
theorem dX8_splitOf_48 : decode cX8_splitOf 48 = .ok (.isub, 1) := do_64 DX8_splitOf_48
theorem dX8_splitOf_49 : decode cX8_splitOf 49 = .ok (.iaload, 1) := do_2e DX8_splitOf_49
theorem dX8_splitOf_50 : decode cX8_splitOf 50 = .ok (.ireturn, 1) := do_ac DX8_splitOf_50
def TX8_splitNumber_46 : List UInt8 := []
def TX8_splitNumber_45 : List UInt8 := 172 :: TX8_splitNumber_46
def TX8_splitNumber_42 : List UInt8 := 182 :: 1 :: 15 :: TX8_splitNumber_45
def TX8_splitNumber_41 : List UInt8 := 28 :: TX8_splitNumber_42
def TX8_splitNumber_40 : List UInt8 := 27 :: TX8_splitNumber_41
def TX8_splitNumber_39 : List UInt8 := 42 :: TX8_splitNumber_40
def TX8_splitNumber_36 : List UInt8 := 167 :: 0 :: 9 :: TX8_splitNumber_39
def TX8_splitNumber_35 : List UInt8 := 3 :: TX8_splitNumber_36
def TX8_splitNumber_32 : List UInt8 := 153 :: 0 :: 7 :: TX8_splitNumber_35
def TX8_splitNumber_29 : List UInt8 := 182 :: 0 :: 45 :: TX8_splitNumber_32
def TX8_splitNumber_28 : List UInt8 := 5 :: TX8_splitNumber_29
def TX8_splitNumber_27 : List UInt8 := 3 :: TX8_splitNumber_28
def TX8_splitNumber_24 : List UInt8 := 167 :: 0 :: 4 :: TX8_splitNumber_27
def TX8_splitNumber_23 : List UInt8 := 4 :: TX8_splitNumber_24
def TX8_splitNumber_20 : List UInt8 := 154 :: 0 :: 7 :: TX8_splitNumber_23
def TX8_splitNumber_17 : List UInt8 := 184 :: 0 :: 49 :: TX8_splitNumber_20
def TX8_splitNumber_15 : List UInt8 := 16 :: 7 :: TX8_splitNumber_17
def TX8_splitNumber_14 : List UInt8 := 3 :: TX8_splitNumber_15
def TX8_splitNumber_13 : List UInt8 := 28 :: TX8_splitNumber_14
def TX8_splitNumber_12 : List UInt8 := 42 :: TX8_splitNumber_13
def TX8_splitNumber_9 : List UInt8 := 154 :: 0 :: 26 :: TX8_splitNumber_12
def TX8_splitNumber_6 : List UInt8 := 182 :: 0 :: 149 :: TX8_splitNumber_9
def TX8_splitNumber_5 : List UInt8 := 4 :: TX8_splitNumber_6
def TX8_splitNumber_2 : List UInt8 := 184 :: 0 :: 145 :: TX8_splitNumber_5
def TX8_splitNumber_1 : List UInt8 := 27 :: TX8_splitNumber_2
def TX8_splitNumber_0 : List UInt8 := 42 :: TX8_splitNumber_1
theorem DX8_splitNumber_0 : cX8_splitNumber.data.toList.drop 0 = TX8_splitNumber_0 := by decide +kernel
theorem DX8_splitNumber_1 : cX8_splitNumber.data.toList.drop 1 = TX8_splitNumber_1 := dr1 DX8_splitNumber_0
theorem DX8_splitNumber_2 : cX8_splitNumber.data.toList.drop 2 = TX8_splitNumber_2 := dr1 DX8_splitNumber_1
theorem DX8_splitNumber_5 : cX8_splitNumber.data.toList.drop 5 = TX8_splitNumber_5 := dr3 DX8_splitNumber_2
theorem DX8_splitNumber_6 : cX8_splitNumber.data.toList.drop 6 = TX8_splitNumber_6 := dr1 DX8_splitNumber_5
theorem DX8_splitNumber_9 : cX8_splitNumber.data.toList.drop 9 = TX8_splitNumber_9 := dr3 DX8_splitNumber_6
theorem DX8_splitNumber_12 : cX8_splitNumber.data.toList.drop 12 = TX8_splitNumber_12 := dr3 DX8_splitNumber_9
theorem DX8_splitNumber_13 : cX8_splitNumber.data.toList.drop 13 = TX8_splitNumber_13 := dr1 DX8_splitNumber_12
theorem DX8_splitNumber_14 : cX8_splitNumber.data.toList.drop 14 = TX8_splitNumber_14 := dr1 DX8_splitNumber_13
theorem DX8_splitNumber_15 : cX8_splitNumber.data.toList.drop 15 = TX8_splitNumber_15 := dr1 DX8_splitNumber_14
theorem DX8_splitNumber_17 : cX8_splitNumber.data.toList.drop 17 = TX8_splitNumber_17 := dr2 DX8_splitNumber_15
theorem DX8_splitNumber_20 : cX8_splitNumber.data.toList.drop 20 = TX8_splitNumber_20 := dr3 DX8_splitNumber_17
theorem DX8_splitNumber_23 : cX8_splitNumber.data.toList.drop 23 = TX8_splitNumber_23 := dr3 DX8_splitNumber_20
theorem DX8_splitNumber_24 : cX8_splitNumber.data.toList.drop 24 = TX8_splitNumber_24 := dr1 DX8_splitNumber_23
theorem DX8_splitNumber_27 : cX8_splitNumber.data.toList.drop 27 = TX8_splitNumber_27 := dr3 DX8_splitNumber_24
theorem DX8_splitNumber_28 : cX8_splitNumber.data.toList.drop 28 = TX8_splitNumber_28 := dr1 DX8_splitNumber_27
theorem DX8_splitNumber_29 : cX8_splitNumber.data.toList.drop 29 = TX8_splitNumber_29 := dr1 DX8_splitNumber_28
theorem DX8_splitNumber_32 : cX8_splitNumber.data.toList.drop 32 = TX8_splitNumber_32 := dr3 DX8_splitNumber_29
theorem DX8_splitNumber_35 : cX8_splitNumber.data.toList.drop 35 = TX8_splitNumber_35 := dr3 DX8_splitNumber_32
theorem DX8_splitNumber_36 : cX8_splitNumber.data.toList.drop 36 = TX8_splitNumber_36 := dr1 DX8_splitNumber_35
theorem DX8_splitNumber_39 : cX8_splitNumber.data.toList.drop 39 = TX8_splitNumber_39 := dr3 DX8_splitNumber_36
theorem DX8_splitNumber_40 : cX8_splitNumber.data.toList.drop 40 = TX8_splitNumber_40 := dr1 DX8_splitNumber_39
theorem DX8_splitNumber_41 : cX8_splitNumber.data.toList.drop 41 = TX8_splitNumber_41 := dr1 DX8_splitNumber_40
theorem DX8_splitNumber_42 : cX8_splitNumber.data.toList.drop 42 = TX8_splitNumber_42 := dr1 DX8_splitNumber_41
theorem DX8_splitNumber_45 : cX8_splitNumber.data.toList.drop 45 = TX8_splitNumber_45 := dr3 DX8_splitNumber_42
theorem dX8_splitNumber_0 : decode cX8_splitNumber 0 = .ok (.aload_n 0, 1) := do_2a DX8_splitNumber_0
theorem dX8_splitNumber_1 : decode cX8_splitNumber 1 = .ok (.iload_n 1, 1) := do_1b DX8_splitNumber_1
theorem dX8_splitNumber_2 : decode cX8_splitNumber 2 = .ok (.invokestatic 145, 3) := do_b8 DX8_splitNumber_2
theorem dX8_splitNumber_5 : decode cX8_splitNumber 5 = .ok (.iconst 1, 1) := do_04 DX8_splitNumber_5
theorem dX8_splitNumber_6 : decode cX8_splitNumber 6 = .ok (.invokevirtual 149, 3) := do_b6 DX8_splitNumber_6
theorem dX8_splitNumber_9 : decode cX8_splitNumber 9 = .ok (.ifCond .ne 26, 3) := do_9a DX8_splitNumber_9 (by decide +kernel)
theorem dX8_splitNumber_12 : decode cX8_splitNumber 12 = .ok (.aload_n 0, 1) := do_2a DX8_splitNumber_12
theorem dX8_splitNumber_13 : decode cX8_splitNumber 13 = .ok (.iload_n 2, 1) := do_1c DX8_splitNumber_13
theorem dX8_splitNumber_14 : decode cX8_splitNumber 14 = .ok (.iconst 0, 1) := do_03 DX8_splitNumber_14
theorem dX8_splitNumber_15 : decode cX8_splitNumber 15 = .ok (.bipush 7, 2) := do_10 DX8_splitNumber_15 (by decide +kernel)
theorem dX8_splitNumber_17 : decode cX8_splitNumber 17 = .ok (.invokestatic 49, 3) := do_b8 DX8_splitNumber_17
theorem dX8_splitNumber_20 : decode cX8_splitNumber 20 = .ok (.ifCond .ne 7, 3) := do_9a DX8_splitNumber_20 (by decide +kernel)
theorem dX8_splitNumber_23 : decode cX8_splitNumber 23 = .ok (.iconst 1, 1) := do_04 DX8_splitNumber_23
theorem dX8_splitNumber_24 : decode cX8_splitNumber 24 = .ok (.goto 4, 3) := do_a7 DX8_splitNumber_24 (by decide +kernel)
theorem dX8_splitNumber_27 : decode cX8_splitNumber 27 = .ok (.iconst 0, 1) := do_03 DX8_splitNumber_27
theorem dX8_splitNumber_28 : decode cX8_splitNumber 28 = .ok (.iconst 2, 1) := do_05 DX8_splitNumber_28
theorem dX8_splitNumber_29 : decode cX8_splitNumber 29 = .ok (.invokevirtual 45, 3) := do_b6 DX8_splitNumber_29
theorem dX8_splitNumber_32 : decode cX8_splitNumber 32 = .ok (.ifCond .eq 7, 3) := do_99 DX8_splitNumber_32 (by decide +kernel)
theorem dX8_splitNumber_35 : decode cX8_splitNumber 35 = .ok (.iconst 0, 1) := do_03 DX8_splitNumber_35
theorem dX8_splitNumber_36 : decode cX8_splitNumber 36 = .ok (.goto 9, 3) := do_a7 DX8_splitNumber_36 (by decide +kernel)
theorem dX8_splitNumber_39 : decode cX8_splitNumber 39 = .ok (.aload_n 0, 1) := do_2a DX8_splitNumber_39
theorem dX8_splitNumber_40 : decode cX8_splitNumber 40 = .ok (.iload_n 1, 1) := do_1b DX8_splitNumber_40
theorem dX8_splitNumber_41 : decode cX8_splitNumber 41 = .ok (.iload_n 2, 1) := do_1c DX8_splitNumber_41
theorem dX8_splitNumber_42 : decode cX8_splitNumber 42 = .ok (.invokevirtual 271, 3) := do_b6 DX8_splitNumber_42
theorem dX8_splitNumber_45 : decode cX8_splitNumber 45 = .ok (.ireturn, 1) := do_ac DX8_splitNumber_45
def TX8_wayOf_26 : List UInt8 := []
def TX8_wayOf_25 : List UInt8 := 176 :: TX8_wayOf_26
def TX8_wayOf_24 : List UInt8 := 79 :: TX8_wayOf_25
def TX8_wayOf_23 : List UInt8 := 46 :: TX8_wayOf_24
def TX8_wayOf_22 : List UInt8 := 5 :: TX8_wayOf_23
def TX8_wayOf_21 : List UInt8 := 43 :: TX8_wayOf_22
def TX8_wayOf_20 : List UInt8 := 4 :: TX8_wayOf_21
def TX8_wayOf_19 : List UInt8 := 89 :: TX8_wayOf_20
def TX8_wayOf_18 : List UInt8 := 79 :: TX8_wayOf_19
def TX8_wayOf_17 : List UInt8 := 46 :: TX8_wayOf_18
def TX8_wayOf_16 : List UInt8 := 4 :: TX8_wayOf_17
def TX8_wayOf_15 : List UInt8 := 43 :: TX8_wayOf_16
def TX8_wayOf_14 : List UInt8 := 3 :: TX8_wayOf_15
def TX8_wayOf_13 : List UInt8 := 89 :: TX8_wayOf_14
def TX8_wayOf_11 : List UInt8 := 188 :: 10 :: TX8_wayOf_13
def TX8_wayOf_10 : List UInt8 := 5 :: TX8_wayOf_11
def TX8_wayOf_9 : List UInt8 := 87 :: TX8_wayOf_10
def TX8_wayOf_6 : List UInt8 := 184 :: 1 :: 11 :: TX8_wayOf_9
def TX8_wayOf_5 : List UInt8 := 43 :: TX8_wayOf_6
def TX8_wayOf_4 : List UInt8 := 76 :: TX8_wayOf_5
def TX8_wayOf_1 : List UInt8 := 184 :: 0 :: 31 :: TX8_wayOf_4
def TX8_wayOf_0 : List UInt8 := 26 :: TX8_wayOf_1
theorem DX8_wayOf_0 : cX8_wayOf.data.toList.drop 0 = TX8_wayOf_0 := by decide +kernel
theorem DX8_wayOf_1 : cX8_wayOf.data.toList.drop 1 = TX8_wayOf_1 := dr1 DX8_wayOf_0
theorem DX8_wayOf_4 : cX8_wayOf.data.toList.drop 4 = TX8_wayOf_4 := dr3 DX8_wayOf_1
theorem DX8_wayOf_5 : cX8_wayOf.data.toList.drop 5 = TX8_wayOf_5 := dr1 DX8_wayOf_4
theorem DX8_wayOf_6 : cX8_wayOf.data.toList.drop 6 = TX8_wayOf_6 := dr1 DX8_wayOf_5
theorem DX8_wayOf_9 : cX8_wayOf.data.toList.drop 9 = TX8_wayOf_9 := dr3 DX8_wayOf_6
theorem DX8_wayOf_10 : cX8_wayOf.data.toList.drop 10 = TX8_wayOf_10 := dr1 DX8_wayOf_9
theorem DX8_wayOf_11 : cX8_wayOf.data.toList.drop 11 = TX8_wayOf_11 := dr1 DX8_wayOf_10
theorem DX8_wayOf_13 : cX8_wayOf.data.toList.drop 13 = TX8_wayOf_13 := dr2 DX8_wayOf_11
theorem DX8_wayOf_14 : cX8_wayOf.data.toList.drop 14 = TX8_wayOf_14 := dr1 DX8_wayOf_13
theorem DX8_wayOf_15 : cX8_wayOf.data.toList.drop 15 = TX8_wayOf_15 := dr1 DX8_wayOf_14
theorem DX8_wayOf_16 : cX8_wayOf.data.toList.drop 16 = TX8_wayOf_16 := dr1 DX8_wayOf_15
theorem DX8_wayOf_17 : cX8_wayOf.data.toList.drop 17 = TX8_wayOf_17 := dr1 DX8_wayOf_16
theorem DX8_wayOf_18 : cX8_wayOf.data.toList.drop 18 = TX8_wayOf_18 := dr1 DX8_wayOf_17
theorem DX8_wayOf_19 : cX8_wayOf.data.toList.drop 19 = TX8_wayOf_19 := dr1 DX8_wayOf_18
theorem DX8_wayOf_20 : cX8_wayOf.data.toList.drop 20 = TX8_wayOf_20 := dr1 DX8_wayOf_19
theorem DX8_wayOf_21 : cX8_wayOf.data.toList.drop 21 = TX8_wayOf_21 := dr1 DX8_wayOf_20
theorem DX8_wayOf_22 : cX8_wayOf.data.toList.drop 22 = TX8_wayOf_22 := dr1 DX8_wayOf_21
theorem DX8_wayOf_23 : cX8_wayOf.data.toList.drop 23 = TX8_wayOf_23 := dr1 DX8_wayOf_22
theorem DX8_wayOf_24 : cX8_wayOf.data.toList.drop 24 = TX8_wayOf_24 := dr1 DX8_wayOf_23
theorem DX8_wayOf_25 : cX8_wayOf.data.toList.drop 25 = TX8_wayOf_25 := dr1 DX8_wayOf_24
theorem dX8_wayOf_0 : decode cX8_wayOf 0 = .ok (.iload_n 0, 1) := do_1a DX8_wayOf_0
theorem dX8_wayOf_1 : decode cX8_wayOf 1 = .ok (.invokestatic 31, 3) := do_b8 DX8_wayOf_1
theorem dX8_wayOf_4 : decode cX8_wayOf 4 = .ok (.astore_n 1, 1) := do_4c DX8_wayOf_4
theorem dX8_wayOf_5 : decode cX8_wayOf 5 = .ok (.aload_n 1, 1) := do_2b DX8_wayOf_5
theorem dX8_wayOf_6 : decode cX8_wayOf 6 = .ok (.invokestatic 267, 3) := do_b8 DX8_wayOf_6
theorem dX8_wayOf_9 : decode cX8_wayOf 9 = .ok (.pop, 1) := do_57 DX8_wayOf_9
theorem dX8_wayOf_10 : decode cX8_wayOf 10 = .ok (.iconst 2, 1) := do_05 DX8_wayOf_10
theorem dX8_wayOf_11 : decode cX8_wayOf 11 = .ok (.newarray .int, 2) := by decide +kernel
theorem dX8_wayOf_13 : decode cX8_wayOf 13 = .ok (.dup, 1) := do_59 DX8_wayOf_13
theorem dX8_wayOf_14 : decode cX8_wayOf 14 = .ok (.iconst 0, 1) := do_03 DX8_wayOf_14
theorem dX8_wayOf_15 : decode cX8_wayOf 15 = .ok (.aload_n 1, 1) := do_2b DX8_wayOf_15
theorem dX8_wayOf_16 : decode cX8_wayOf 16 = .ok (.iconst 1, 1) := do_04 DX8_wayOf_16
theorem dX8_wayOf_17 : decode cX8_wayOf 17 = .ok (.iaload, 1) := do_2e DX8_wayOf_17
theorem dX8_wayOf_18 : decode cX8_wayOf 18 = .ok (.iastore, 1) := do_4f DX8_wayOf_18
theorem dX8_wayOf_19 : decode cX8_wayOf 19 = .ok (.dup, 1) := do_59 DX8_wayOf_19
theorem dX8_wayOf_20 : decode cX8_wayOf 20 = .ok (.iconst 1, 1) := do_04 DX8_wayOf_20
theorem dX8_wayOf_21 : decode cX8_wayOf 21 = .ok (.aload_n 1, 1) := do_2b DX8_wayOf_21
theorem dX8_wayOf_22 : decode cX8_wayOf 22 = .ok (.iconst 2, 1) := do_05 DX8_wayOf_22
theorem dX8_wayOf_23 : decode cX8_wayOf 23 = .ok (.iaload, 1) := do_2e DX8_wayOf_23
theorem dX8_wayOf_24 : decode cX8_wayOf 24 = .ok (.iastore, 1) := do_4f DX8_wayOf_24
theorem dX8_wayOf_25 : decode cX8_wayOf 25 = .ok (.areturn, 1) := do_b0 DX8_wayOf_25
def TX8_way_55 : List UInt8 := []
def TX8_way_54 : List UInt8 := 176 :: TX8_way_55
def TX8_way_51 : List UInt8 := 182 :: 0 :: 113 :: TX8_way_54
def TX8_way_48 : List UInt8 := 182 :: 0 :: 204 :: TX8_way_51
def TX8_way_47 : List UInt8 := 46 :: TX8_way_48
def TX8_way_46 : List UInt8 := 4 :: TX8_way_47
def TX8_way_45 : List UInt8 := 44 :: TX8_way_46
def TX8_way_42 : List UInt8 := 182 :: 0 :: 222 :: TX8_way_45
def TX8_way_40 : List UInt8 := 18 :: 220 :: TX8_way_42
def TX8_way_37 : List UInt8 := 182 :: 0 :: 204 :: TX8_way_40
def TX8_way_36 : List UInt8 := 46 :: TX8_way_37
def TX8_way_35 : List UInt8 := 3 :: TX8_way_36
def TX8_way_34 : List UInt8 := 44 :: TX8_way_35
def TX8_way_31 : List UInt8 := 183 :: 0 :: 88 :: TX8_way_34
def TX8_way_30 : List UInt8 := 89 :: TX8_way_31
def TX8_way_27 : List UInt8 := 187 :: 0 :: 86 :: TX8_way_30
def TX8_way_26 : List UInt8 := 77 :: TX8_way_27
def TX8_way_23 : List UInt8 := 184 :: 1 :: 18 :: TX8_way_26
def TX8_way_22 : List UInt8 := 46 :: TX8_way_23
def TX8_way_21 : List UInt8 := 3 :: TX8_way_22
def TX8_way_20 : List UInt8 := 50 :: TX8_way_21
def TX8_way_19 : List UInt8 := 27 :: TX8_way_20
def TX8_way_16 : List UInt8 := 180 :: 0 :: 35 :: TX8_way_19
def TX8_way_15 : List UInt8 := 42 :: TX8_way_16
def TX8_way_14 : List UInt8 := 176 :: TX8_way_15
def TX8_way_12 : List UInt8 := 18 :: 165 :: TX8_way_14
def TX8_way_9 : List UInt8 := 153 :: 0 :: 6 :: TX8_way_12
def TX8_way_6 : List UInt8 := 182 :: 0 :: 149 :: TX8_way_9
def TX8_way_5 : List UInt8 := 4 :: TX8_way_6
def TX8_way_2 : List UInt8 := 184 :: 0 :: 145 :: TX8_way_5
def TX8_way_1 : List UInt8 := 27 :: TX8_way_2
def TX8_way_0 : List UInt8 := 42 :: TX8_way_1
theorem DX8_way_0 : cX8_way.data.toList.drop 0 = TX8_way_0 := by decide +kernel
theorem DX8_way_1 : cX8_way.data.toList.drop 1 = TX8_way_1 := dr1 DX8_way_0
theorem DX8_way_2 : cX8_way.data.toList.drop 2 = TX8_way_2 := dr1 DX8_way_1
theorem DX8_way_5 : cX8_way.data.toList.drop 5 = TX8_way_5 := dr3 DX8_way_2
theorem DX8_way_6 : cX8_way.data.toList.drop 6 = TX8_way_6 := dr1 DX8_way_5
theorem DX8_way_9 : cX8_way.data.toList.drop 9 = TX8_way_9 := dr3 DX8_way_6
theorem DX8_way_12 : cX8_way.data.toList.drop 12 = TX8_way_12 := dr3 DX8_way_9
theorem DX8_way_14 : cX8_way.data.toList.drop 14 = TX8_way_14 := dr2 DX8_way_12
theorem DX8_way_15 : cX8_way.data.toList.drop 15 = TX8_way_15 := dr1 DX8_way_14
theorem DX8_way_16 : cX8_way.data.toList.drop 16 = TX8_way_16 := dr1 DX8_way_15
theorem DX8_way_19 : cX8_way.data.toList.drop 19 = TX8_way_19 := dr3 DX8_way_16
theorem DX8_way_20 : cX8_way.data.toList.drop 20 = TX8_way_20 := dr1 DX8_way_19
theorem DX8_way_21 : cX8_way.data.toList.drop 21 = TX8_way_21 := dr1 DX8_way_20
theorem DX8_way_22 : cX8_way.data.toList.drop 22 = TX8_way_22 := dr1 DX8_way_21
theorem DX8_way_23 : cX8_way.data.toList.drop 23 = TX8_way_23 := dr1 DX8_way_22
theorem DX8_way_26 : cX8_way.data.toList.drop 26 = TX8_way_26 := dr3 DX8_way_23
theorem DX8_way_27 : cX8_way.data.toList.drop 27 = TX8_way_27 := dr1 DX8_way_26
theorem DX8_way_30 : cX8_way.data.toList.drop 30 = TX8_way_30 := dr3 DX8_way_27
theorem DX8_way_31 : cX8_way.data.toList.drop 31 = TX8_way_31 := dr1 DX8_way_30
theorem DX8_way_34 : cX8_way.data.toList.drop 34 = TX8_way_34 := dr3 DX8_way_31
theorem DX8_way_35 : cX8_way.data.toList.drop 35 = TX8_way_35 := dr1 DX8_way_34
theorem DX8_way_36 : cX8_way.data.toList.drop 36 = TX8_way_36 := dr1 DX8_way_35
theorem DX8_way_37 : cX8_way.data.toList.drop 37 = TX8_way_37 := dr1 DX8_way_36
theorem DX8_way_40 : cX8_way.data.toList.drop 40 = TX8_way_40 := dr3 DX8_way_37
theorem DX8_way_42 : cX8_way.data.toList.drop 42 = TX8_way_42 := dr2 DX8_way_40
theorem DX8_way_45 : cX8_way.data.toList.drop 45 = TX8_way_45 := dr3 DX8_way_42
theorem DX8_way_46 : cX8_way.data.toList.drop 46 = TX8_way_46 := dr1 DX8_way_45
theorem DX8_way_47 : cX8_way.data.toList.drop 47 = TX8_way_47 := dr1 DX8_way_46
theorem DX8_way_48 : cX8_way.data.toList.drop 48 = TX8_way_48 := dr1 DX8_way_47
theorem DX8_way_51 : cX8_way.data.toList.drop 51 = TX8_way_51 := dr3 DX8_way_48
theorem DX8_way_54 : cX8_way.data.toList.drop 54 = TX8_way_54 := dr3 DX8_way_51
theorem dX8_way_0 : decode cX8_way 0 = .ok (.aload_n 0, 1) := do_2a DX8_way_0
theorem dX8_way_1 : decode cX8_way 1 = .ok (.iload_n 1, 1) := do_1b DX8_way_1
theorem dX8_way_2 : decode cX8_way 2 = .ok (.invokestatic 145, 3) := do_b8 DX8_way_2
theorem dX8_way_5 : decode cX8_way 5 = .ok (.iconst 1, 1) := do_04 DX8_way_5
theorem dX8_way_6 : decode cX8_way 6 = .ok (.invokevirtual 149, 3) := do_b6 DX8_way_6
theorem dX8_way_9 : decode cX8_way 9 = .ok (.ifCond .eq 6, 3) := do_99 DX8_way_9 (by decide +kernel)
theorem dX8_way_12 : decode cX8_way 12 = .ok (.ldc 165, 2) := by decide +kernel
theorem dX8_way_14 : decode cX8_way 14 = .ok (.areturn, 1) := do_b0 DX8_way_14
theorem dX8_way_15 : decode cX8_way 15 = .ok (.aload_n 0, 1) := do_2a DX8_way_15
theorem dX8_way_16 : decode cX8_way 16 = .ok (.getfield 35, 3) := do_b4 DX8_way_16
theorem dX8_way_19 : decode cX8_way 19 = .ok (.iload_n 1, 1) := do_1b DX8_way_19
theorem dX8_way_20 : decode cX8_way 20 = .ok (.aaload, 1) := do_32 DX8_way_20
theorem dX8_way_21 : decode cX8_way 21 = .ok (.iconst 0, 1) := do_03 DX8_way_21
theorem dX8_way_22 : decode cX8_way 22 = .ok (.iaload, 1) := do_2e DX8_way_22
theorem dX8_way_23 : decode cX8_way 23 = .ok (.invokestatic 274, 3) := do_b8 DX8_way_23
theorem dX8_way_26 : decode cX8_way 26 = .ok (.astore_n 2, 1) := do_4d DX8_way_26
theorem dX8_way_27 : decode cX8_way 27 = .ok (.new 86, 3) := do_bb DX8_way_27
theorem dX8_way_30 : decode cX8_way 30 = .ok (.dup, 1) := do_59 DX8_way_30
theorem dX8_way_31 : decode cX8_way 31 = .ok (.invokespecial 88, 3) := do_b7 DX8_way_31
theorem dX8_way_34 : decode cX8_way 34 = .ok (.aload_n 2, 1) := do_2c DX8_way_34
theorem dX8_way_35 : decode cX8_way 35 = .ok (.iconst 0, 1) := do_03 DX8_way_35
theorem dX8_way_36 : decode cX8_way 36 = .ok (.iaload, 1) := do_2e DX8_way_36
theorem dX8_way_37 : decode cX8_way 37 = .ok (.invokevirtual 204, 3) := do_b6 DX8_way_37
theorem dX8_way_40 : decode cX8_way 40 = .ok (.ldc 220, 2) := by decide +kernel
theorem dX8_way_42 : decode cX8_way 42 = .ok (.invokevirtual 222, 3) := do_b6 DX8_way_42
theorem dX8_way_45 : decode cX8_way 45 = .ok (.aload_n 2, 1) := do_2c DX8_way_45
theorem dX8_way_46 : decode cX8_way 46 = .ok (.iconst 1, 1) := do_04 DX8_way_46
theorem dX8_way_47 : decode cX8_way 47 = .ok (.iaload, 1) := do_2e DX8_way_47
theorem dX8_way_48 : decode cX8_way 48 = .ok (.invokevirtual 204, 3) := do_b6 DX8_way_48
theorem dX8_way_51 : decode cX8_way 51 = .ok (.invokevirtual 113, 3) := do_b6 DX8_way_51
theorem dX8_way_54 : decode cX8_way 54 = .ok (.areturn, 1) := do_b0 DX8_way_54
def TX8_product__167 : List UInt8 := []
def TX8_product__166 : List UInt8 := 176 :: TX8_product__167
def TX8_product__163 : List UInt8 := 182 :: 0 :: 113 :: TX8_product__166
def TX8_product__160 : List UInt8 := 182 :: 0 :: 204 :: TX8_product__163
def TX8_product__159 : List UInt8 := 96 :: TX8_product__160
def TX8_product__158 : List UInt8 := 104 :: TX8_product__159
def TX8_product__157 : List UInt8 := 46 :: TX8_product__158
def TX8_product__156 : List UInt8 := 3 :: TX8_product__157
def TX8_product__154 : List UInt8 := 25 :: 4 :: TX8_product__156
def TX8_product__153 : List UInt8 := 46 :: TX8_product__154
def TX8_product__152 : List UInt8 := 4 :: TX8_product__153
def TX8_product__151 : List UInt8 := 45 :: TX8_product__152
def TX8_product__150 : List UInt8 := 104 :: TX8_product__151
def TX8_product__149 : List UInt8 := 46 :: TX8_product__150
def TX8_product__148 : List UInt8 := 4 :: TX8_product__149
def TX8_product__146 : List UInt8 := 25 :: 4 :: TX8_product__148
def TX8_product__145 : List UInt8 := 46 :: TX8_product__146
def TX8_product__144 : List UInt8 := 3 :: TX8_product__145
def TX8_product__143 : List UInt8 := 45 :: TX8_product__144
def TX8_product__140 : List UInt8 := 182 :: 0 :: 222 :: TX8_product__143
def TX8_product__138 : List UInt8 := 18 :: 220 :: TX8_product__140
def TX8_product__135 : List UInt8 := 182 :: 0 :: 204 :: TX8_product__138
def TX8_product__132 : List UInt8 := 184 :: 0 :: 196 :: TX8_product__135
def TX8_product__131 : List UInt8 := 100 :: TX8_product__132
def TX8_product__130 : List UInt8 := 104 :: TX8_product__131
def TX8_product__129 : List UInt8 := 46 :: TX8_product__130
def TX8_product__128 : List UInt8 := 4 :: TX8_product__129
def TX8_product__126 : List UInt8 := 25 :: 4 :: TX8_product__128
def TX8_product__125 : List UInt8 := 46 :: TX8_product__126
def TX8_product__124 : List UInt8 := 4 :: TX8_product__125
def TX8_product__123 : List UInt8 := 45 :: TX8_product__124
def TX8_product__122 : List UInt8 := 104 :: TX8_product__123
def TX8_product__121 : List UInt8 := 46 :: TX8_product__122
def TX8_product__120 : List UInt8 := 3 :: TX8_product__121
def TX8_product__118 : List UInt8 := 25 :: 4 :: TX8_product__120
def TX8_product__117 : List UInt8 := 46 :: TX8_product__118
def TX8_product__116 : List UInt8 := 3 :: TX8_product__117
def TX8_product__115 : List UInt8 := 45 :: TX8_product__116
def TX8_product__112 : List UInt8 := 182 :: 0 :: 222 :: TX8_product__115
def TX8_product__110 : List UInt8 := 18 :: 220 :: TX8_product__112
def TX8_product__107 : List UInt8 := 182 :: 0 :: 204 :: TX8_product__110
def TX8_product__104 : List UInt8 := 184 :: 0 :: 196 :: TX8_product__107
def TX8_product__103 : List UInt8 := 100 :: TX8_product__104
def TX8_product__102 : List UInt8 := 104 :: TX8_product__103
def TX8_product__101 : List UInt8 := 46 :: TX8_product__102
def TX8_product__100 : List UInt8 := 3 :: TX8_product__101
def TX8_product__98 : List UInt8 := 25 :: 4 :: TX8_product__100
def TX8_product__97 : List UInt8 := 46 :: TX8_product__98
def TX8_product__96 : List UInt8 := 4 :: TX8_product__97
def TX8_product__95 : List UInt8 := 45 :: TX8_product__96
def TX8_product__94 : List UInt8 := 104 :: TX8_product__95
def TX8_product__93 : List UInt8 := 46 :: TX8_product__94
def TX8_product__92 : List UInt8 := 4 :: TX8_product__93
def TX8_product__90 : List UInt8 := 25 :: 4 :: TX8_product__92
def TX8_product__89 : List UInt8 := 46 :: TX8_product__90
def TX8_product__88 : List UInt8 := 3 :: TX8_product__89
def TX8_product__87 : List UInt8 := 45 :: TX8_product__88
def TX8_product__84 : List UInt8 := 182 :: 0 :: 222 :: TX8_product__87
def TX8_product__82 : List UInt8 := 18 :: 220 :: TX8_product__84
def TX8_product__79 : List UInt8 := 182 :: 0 :: 204 :: TX8_product__82
def TX8_product__78 : List UInt8 := 96 :: TX8_product__79
def TX8_product__77 : List UInt8 := 104 :: TX8_product__78
def TX8_product__76 : List UInt8 := 46 :: TX8_product__77
def TX8_product__75 : List UInt8 := 4 :: TX8_product__76
def TX8_product__73 : List UInt8 := 25 :: 4 :: TX8_product__75
def TX8_product__72 : List UInt8 := 46 :: TX8_product__73
def TX8_product__71 : List UInt8 := 4 :: TX8_product__72
def TX8_product__70 : List UInt8 := 45 :: TX8_product__71
def TX8_product__69 : List UInt8 := 104 :: TX8_product__70
def TX8_product__68 : List UInt8 := 46 :: TX8_product__69
def TX8_product__67 : List UInt8 := 3 :: TX8_product__68
def TX8_product__65 : List UInt8 := 25 :: 4 :: TX8_product__67
def TX8_product__64 : List UInt8 := 46 :: TX8_product__65
def TX8_product__63 : List UInt8 := 3 :: TX8_product__64
def TX8_product__62 : List UInt8 := 45 :: TX8_product__63
def TX8_product__59 : List UInt8 := 183 :: 0 :: 88 :: TX8_product__62
def TX8_product__58 : List UInt8 := 89 :: TX8_product__59
def TX8_product__55 : List UInt8 := 187 :: 0 :: 86 :: TX8_product__58
def TX8_product__53 : List UInt8 := 58 :: 4 :: TX8_product__55
def TX8_product__50 : List UInt8 := 184 :: 1 :: 18 :: TX8_product__53
def TX8_product__49 : List UInt8 := 46 :: TX8_product__50
def TX8_product__48 : List UInt8 := 3 :: TX8_product__49
def TX8_product__47 : List UInt8 := 50 :: TX8_product__48
def TX8_product__46 : List UInt8 := 28 :: TX8_product__47
def TX8_product__43 : List UInt8 := 180 :: 0 :: 35 :: TX8_product__46
def TX8_product__42 : List UInt8 := 42 :: TX8_product__43
def TX8_product__41 : List UInt8 := 78 :: TX8_product__42
def TX8_product__38 : List UInt8 := 184 :: 1 :: 18 :: TX8_product__41
def TX8_product__37 : List UInt8 := 46 :: TX8_product__38
def TX8_product__36 : List UInt8 := 3 :: TX8_product__37
def TX8_product__35 : List UInt8 := 50 :: TX8_product__36
def TX8_product__34 : List UInt8 := 27 :: TX8_product__35
def TX8_product__31 : List UInt8 := 180 :: 0 :: 35 :: TX8_product__34
def TX8_product__30 : List UInt8 := 42 :: TX8_product__31
def TX8_product__29 : List UInt8 := 176 :: TX8_product__30
def TX8_product__27 : List UInt8 := 18 :: 165 :: TX8_product__29
def TX8_product__24 : List UInt8 := 153 :: 0 :: 6 :: TX8_product__27
def TX8_product__21 : List UInt8 := 182 :: 0 :: 149 :: TX8_product__24
def TX8_product__20 : List UInt8 := 4 :: TX8_product__21
def TX8_product__19 : List UInt8 := 3 :: TX8_product__20
def TX8_product__16 : List UInt8 := 167 :: 0 :: 4 :: TX8_product__19
def TX8_product__15 : List UInt8 := 4 :: TX8_product__16
def TX8_product__12 : List UInt8 := 153 :: 0 :: 7 :: TX8_product__15
def TX8_product__9 : List UInt8 := 184 :: 0 :: 145 :: TX8_product__12
def TX8_product__8 : List UInt8 := 28 :: TX8_product__9
def TX8_product__5 : List UInt8 := 154 :: 0 :: 10 :: TX8_product__8
def TX8_product__2 : List UInt8 := 184 :: 0 :: 145 :: TX8_product__5
def TX8_product__1 : List UInt8 := 27 :: TX8_product__2
def TX8_product__0 : List UInt8 := 42 :: TX8_product__1
theorem DX8_product__0 : cX8_product_.data.toList.drop 0 = TX8_product__0 := by decide +kernel
theorem DX8_product__1 : cX8_product_.data.toList.drop 1 = TX8_product__1 := dr1 DX8_product__0
theorem DX8_product__2 : cX8_product_.data.toList.drop 2 = TX8_product__2 := dr1 DX8_product__1
theorem DX8_product__5 : cX8_product_.data.toList.drop 5 = TX8_product__5 := dr3 DX8_product__2
theorem DX8_product__8 : cX8_product_.data.toList.drop 8 = TX8_product__8 := dr3 DX8_product__5
theorem DX8_product__9 : cX8_product_.data.toList.drop 9 = TX8_product__9 := dr1 DX8_product__8
theorem DX8_product__12 : cX8_product_.data.toList.drop 12 = TX8_product__12 := dr3 DX8_product__9
theorem DX8_product__15 : cX8_product_.data.toList.drop 15 = TX8_product__15 := dr3 DX8_product__12
theorem DX8_product__16 : cX8_product_.data.toList.drop 16 = TX8_product__16 := dr1 DX8_product__15
theorem DX8_product__19 : cX8_product_.data.toList.drop 19 = TX8_product__19 := dr3 DX8_product__16
theorem DX8_product__20 : cX8_product_.data.toList.drop 20 = TX8_product__20 := dr1 DX8_product__19
theorem DX8_product__21 : cX8_product_.data.toList.drop 21 = TX8_product__21 := dr1 DX8_product__20
theorem DX8_product__24 : cX8_product_.data.toList.drop 24 = TX8_product__24 := dr3 DX8_product__21
theorem DX8_product__27 : cX8_product_.data.toList.drop 27 = TX8_product__27 := dr3 DX8_product__24
theorem DX8_product__29 : cX8_product_.data.toList.drop 29 = TX8_product__29 := dr2 DX8_product__27
theorem DX8_product__30 : cX8_product_.data.toList.drop 30 = TX8_product__30 := dr1 DX8_product__29
theorem DX8_product__31 : cX8_product_.data.toList.drop 31 = TX8_product__31 := dr1 DX8_product__30
theorem DX8_product__34 : cX8_product_.data.toList.drop 34 = TX8_product__34 := dr3 DX8_product__31
theorem DX8_product__35 : cX8_product_.data.toList.drop 35 = TX8_product__35 := dr1 DX8_product__34
theorem DX8_product__36 : cX8_product_.data.toList.drop 36 = TX8_product__36 := dr1 DX8_product__35
theorem DX8_product__37 : cX8_product_.data.toList.drop 37 = TX8_product__37 := dr1 DX8_product__36
theorem DX8_product__38 : cX8_product_.data.toList.drop 38 = TX8_product__38 := dr1 DX8_product__37
theorem DX8_product__41 : cX8_product_.data.toList.drop 41 = TX8_product__41 := dr3 DX8_product__38
theorem DX8_product__42 : cX8_product_.data.toList.drop 42 = TX8_product__42 := dr1 DX8_product__41
theorem DX8_product__43 : cX8_product_.data.toList.drop 43 = TX8_product__43 := dr1 DX8_product__42
theorem DX8_product__46 : cX8_product_.data.toList.drop 46 = TX8_product__46 := dr3 DX8_product__43
theorem DX8_product__47 : cX8_product_.data.toList.drop 47 = TX8_product__47 := dr1 DX8_product__46
theorem DX8_product__48 : cX8_product_.data.toList.drop 48 = TX8_product__48 := dr1 DX8_product__47
theorem DX8_product__49 : cX8_product_.data.toList.drop 49 = TX8_product__49 := dr1 DX8_product__48
theorem DX8_product__50 : cX8_product_.data.toList.drop 50 = TX8_product__50 := dr1 DX8_product__49
theorem DX8_product__53 : cX8_product_.data.toList.drop 53 = TX8_product__53 := dr3 DX8_product__50
theorem DX8_product__55 : cX8_product_.data.toList.drop 55 = TX8_product__55 := dr2 DX8_product__53
theorem DX8_product__58 : cX8_product_.data.toList.drop 58 = TX8_product__58 := dr3 DX8_product__55
theorem DX8_product__59 : cX8_product_.data.toList.drop 59 = TX8_product__59 := dr1 DX8_product__58
theorem DX8_product__62 : cX8_product_.data.toList.drop 62 = TX8_product__62 := dr3 DX8_product__59
theorem DX8_product__63 : cX8_product_.data.toList.drop 63 = TX8_product__63 := dr1 DX8_product__62
theorem DX8_product__64 : cX8_product_.data.toList.drop 64 = TX8_product__64 := dr1 DX8_product__63
theorem DX8_product__65 : cX8_product_.data.toList.drop 65 = TX8_product__65 := dr1 DX8_product__64
theorem DX8_product__67 : cX8_product_.data.toList.drop 67 = TX8_product__67 := dr2 DX8_product__65
theorem DX8_product__68 : cX8_product_.data.toList.drop 68 = TX8_product__68 := dr1 DX8_product__67
theorem DX8_product__69 : cX8_product_.data.toList.drop 69 = TX8_product__69 := dr1 DX8_product__68
theorem DX8_product__70 : cX8_product_.data.toList.drop 70 = TX8_product__70 := dr1 DX8_product__69
theorem DX8_product__71 : cX8_product_.data.toList.drop 71 = TX8_product__71 := dr1 DX8_product__70
theorem DX8_product__72 : cX8_product_.data.toList.drop 72 = TX8_product__72 := dr1 DX8_product__71
theorem DX8_product__73 : cX8_product_.data.toList.drop 73 = TX8_product__73 := dr1 DX8_product__72
theorem DX8_product__75 : cX8_product_.data.toList.drop 75 = TX8_product__75 := dr2 DX8_product__73
theorem DX8_product__76 : cX8_product_.data.toList.drop 76 = TX8_product__76 := dr1 DX8_product__75
theorem DX8_product__77 : cX8_product_.data.toList.drop 77 = TX8_product__77 := dr1 DX8_product__76
theorem DX8_product__78 : cX8_product_.data.toList.drop 78 = TX8_product__78 := dr1 DX8_product__77
theorem DX8_product__79 : cX8_product_.data.toList.drop 79 = TX8_product__79 := dr1 DX8_product__78
theorem DX8_product__82 : cX8_product_.data.toList.drop 82 = TX8_product__82 := dr3 DX8_product__79
theorem DX8_product__84 : cX8_product_.data.toList.drop 84 = TX8_product__84 := dr2 DX8_product__82
theorem DX8_product__87 : cX8_product_.data.toList.drop 87 = TX8_product__87 := dr3 DX8_product__84
theorem DX8_product__88 : cX8_product_.data.toList.drop 88 = TX8_product__88 := dr1 DX8_product__87
theorem DX8_product__89 : cX8_product_.data.toList.drop 89 = TX8_product__89 := dr1 DX8_product__88
theorem DX8_product__90 : cX8_product_.data.toList.drop 90 = TX8_product__90 := dr1 DX8_product__89
theorem DX8_product__92 : cX8_product_.data.toList.drop 92 = TX8_product__92 := dr2 DX8_product__90
theorem DX8_product__93 : cX8_product_.data.toList.drop 93 = TX8_product__93 := dr1 DX8_product__92
theorem DX8_product__94 : cX8_product_.data.toList.drop 94 = TX8_product__94 := dr1 DX8_product__93
theorem DX8_product__95 : cX8_product_.data.toList.drop 95 = TX8_product__95 := dr1 DX8_product__94
theorem DX8_product__96 : cX8_product_.data.toList.drop 96 = TX8_product__96 := dr1 DX8_product__95
theorem DX8_product__97 : cX8_product_.data.toList.drop 97 = TX8_product__97 := dr1 DX8_product__96
theorem DX8_product__98 : cX8_product_.data.toList.drop 98 = TX8_product__98 := dr1 DX8_product__97
theorem DX8_product__100 : cX8_product_.data.toList.drop 100 = TX8_product__100 := dr2 DX8_product__98
theorem DX8_product__101 : cX8_product_.data.toList.drop 101 = TX8_product__101 := dr1 DX8_product__100
theorem DX8_product__102 : cX8_product_.data.toList.drop 102 = TX8_product__102 := dr1 DX8_product__101
theorem DX8_product__103 : cX8_product_.data.toList.drop 103 = TX8_product__103 := dr1 DX8_product__102
theorem DX8_product__104 : cX8_product_.data.toList.drop 104 = TX8_product__104 := dr1 DX8_product__103
theorem DX8_product__107 : cX8_product_.data.toList.drop 107 = TX8_product__107 := dr3 DX8_product__104
theorem DX8_product__110 : cX8_product_.data.toList.drop 110 = TX8_product__110 := dr3 DX8_product__107
theorem DX8_product__112 : cX8_product_.data.toList.drop 112 = TX8_product__112 := dr2 DX8_product__110
theorem DX8_product__115 : cX8_product_.data.toList.drop 115 = TX8_product__115 := dr3 DX8_product__112
theorem DX8_product__116 : cX8_product_.data.toList.drop 116 = TX8_product__116 := dr1 DX8_product__115
theorem DX8_product__117 : cX8_product_.data.toList.drop 117 = TX8_product__117 := dr1 DX8_product__116
theorem DX8_product__118 : cX8_product_.data.toList.drop 118 = TX8_product__118 := dr1 DX8_product__117
theorem DX8_product__120 : cX8_product_.data.toList.drop 120 = TX8_product__120 := dr2 DX8_product__118
theorem DX8_product__121 : cX8_product_.data.toList.drop 121 = TX8_product__121 := dr1 DX8_product__120
theorem DX8_product__122 : cX8_product_.data.toList.drop 122 = TX8_product__122 := dr1 DX8_product__121
theorem DX8_product__123 : cX8_product_.data.toList.drop 123 = TX8_product__123 := dr1 DX8_product__122
theorem DX8_product__124 : cX8_product_.data.toList.drop 124 = TX8_product__124 := dr1 DX8_product__123
theorem DX8_product__125 : cX8_product_.data.toList.drop 125 = TX8_product__125 := dr1 DX8_product__124
theorem DX8_product__126 : cX8_product_.data.toList.drop 126 = TX8_product__126 := dr1 DX8_product__125
theorem DX8_product__128 : cX8_product_.data.toList.drop 128 = TX8_product__128 := dr2 DX8_product__126
theorem DX8_product__129 : cX8_product_.data.toList.drop 129 = TX8_product__129 := dr1 DX8_product__128
theorem DX8_product__130 : cX8_product_.data.toList.drop 130 = TX8_product__130 := dr1 DX8_product__129
theorem DX8_product__131 : cX8_product_.data.toList.drop 131 = TX8_product__131 := dr1 DX8_product__130
theorem DX8_product__132 : cX8_product_.data.toList.drop 132 = TX8_product__132 := dr1 DX8_product__131
theorem DX8_product__135 : cX8_product_.data.toList.drop 135 = TX8_product__135 := dr3 DX8_product__132
theorem DX8_product__138 : cX8_product_.data.toList.drop 138 = TX8_product__138 := dr3 DX8_product__135
theorem DX8_product__140 : cX8_product_.data.toList.drop 140 = TX8_product__140 := dr2 DX8_product__138
theorem DX8_product__143 : cX8_product_.data.toList.drop 143 = TX8_product__143 := dr3 DX8_product__140
theorem DX8_product__144 : cX8_product_.data.toList.drop 144 = TX8_product__144 := dr1 DX8_product__143
theorem DX8_product__145 : cX8_product_.data.toList.drop 145 = TX8_product__145 := dr1 DX8_product__144
theorem DX8_product__146 : cX8_product_.data.toList.drop 146 = TX8_product__146 := dr1 DX8_product__145
theorem DX8_product__148 : cX8_product_.data.toList.drop 148 = TX8_product__148 := dr2 DX8_product__146
theorem DX8_product__149 : cX8_product_.data.toList.drop 149 = TX8_product__149 := dr1 DX8_product__148
theorem DX8_product__150 : cX8_product_.data.toList.drop 150 = TX8_product__150 := dr1 DX8_product__149
theorem DX8_product__151 : cX8_product_.data.toList.drop 151 = TX8_product__151 := dr1 DX8_product__150
theorem DX8_product__152 : cX8_product_.data.toList.drop 152 = TX8_product__152 := dr1 DX8_product__151
theorem DX8_product__153 : cX8_product_.data.toList.drop 153 = TX8_product__153 := dr1 DX8_product__152
theorem DX8_product__154 : cX8_product_.data.toList.drop 154 = TX8_product__154 := dr1 DX8_product__153
theorem DX8_product__156 : cX8_product_.data.toList.drop 156 = TX8_product__156 := dr2 DX8_product__154
theorem DX8_product__157 : cX8_product_.data.toList.drop 157 = TX8_product__157 := dr1 DX8_product__156
theorem DX8_product__158 : cX8_product_.data.toList.drop 158 = TX8_product__158 := dr1 DX8_product__157
theorem DX8_product__159 : cX8_product_.data.toList.drop 159 = TX8_product__159 := dr1 DX8_product__158
theorem DX8_product__160 : cX8_product_.data.toList.drop 160 = TX8_product__160 := dr1 DX8_product__159
theorem DX8_product__163 : cX8_product_.data.toList.drop 163 = TX8_product__163 := dr3 DX8_product__160
theorem DX8_product__166 : cX8_product_.data.toList.drop 166 = TX8_product__166 := dr3 DX8_product__163
theorem dX8_product__0 : decode cX8_product_ 0 = .ok (.aload_n 0, 1) := do_2a DX8_product__0
theorem dX8_product__1 : decode cX8_product_ 1 = .ok (.iload_n 1, 1) := do_1b DX8_product__1
theorem dX8_product__2 : decode cX8_product_ 2 = .ok (.invokestatic 145, 3) := do_b8 DX8_product__2
theorem dX8_product__5 : decode cX8_product_ 5 = .ok (.ifCond .ne 10, 3) := do_9a DX8_product__5 (by decide +kernel)
theorem dX8_product__8 : decode cX8_product_ 8 = .ok (.iload_n 2, 1) := do_1c DX8_product__8
theorem dX8_product__9 : decode cX8_product_ 9 = .ok (.invokestatic 145, 3) := do_b8 DX8_product__9
theorem dX8_product__12 : decode cX8_product_ 12 = .ok (.ifCond .eq 7, 3) := do_99 DX8_product__12 (by decide +kernel)
theorem dX8_product__15 : decode cX8_product_ 15 = .ok (.iconst 1, 1) := do_04 DX8_product__15
theorem dX8_product__16 : decode cX8_product_ 16 = .ok (.goto 4, 3) := do_a7 DX8_product__16 (by decide +kernel)
theorem dX8_product__19 : decode cX8_product_ 19 = .ok (.iconst 0, 1) := do_03 DX8_product__19
theorem dX8_product__20 : decode cX8_product_ 20 = .ok (.iconst 1, 1) := do_04 DX8_product__20
theorem dX8_product__21 : decode cX8_product_ 21 = .ok (.invokevirtual 149, 3) := do_b6 DX8_product__21
theorem dX8_product__24 : decode cX8_product_ 24 = .ok (.ifCond .eq 6, 3) := do_99 DX8_product__24 (by decide +kernel)
theorem dX8_product__27 : decode cX8_product_ 27 = .ok (.ldc 165, 2) := by decide +kernel
theorem dX8_product__29 : decode cX8_product_ 29 = .ok (.areturn, 1) := do_b0 DX8_product__29
theorem dX8_product__30 : decode cX8_product_ 30 = .ok (.aload_n 0, 1) := do_2a DX8_product__30
theorem dX8_product__31 : decode cX8_product_ 31 = .ok (.getfield 35, 3) := do_b4 DX8_product__31
theorem dX8_product__34 : decode cX8_product_ 34 = .ok (.iload_n 1, 1) := do_1b DX8_product__34
theorem dX8_product__35 : decode cX8_product_ 35 = .ok (.aaload, 1) := do_32 DX8_product__35
theorem dX8_product__36 : decode cX8_product_ 36 = .ok (.iconst 0, 1) := do_03 DX8_product__36
theorem dX8_product__37 : decode cX8_product_ 37 = .ok (.iaload, 1) := do_2e DX8_product__37
theorem dX8_product__38 : decode cX8_product_ 38 = .ok (.invokestatic 274, 3) := do_b8 DX8_product__38
theorem dX8_product__41 : decode cX8_product_ 41 = .ok (.astore_n 3, 1) := do_4e DX8_product__41
theorem dX8_product__42 : decode cX8_product_ 42 = .ok (.aload_n 0, 1) := do_2a DX8_product__42
theorem dX8_product__43 : decode cX8_product_ 43 = .ok (.getfield 35, 3) := do_b4 DX8_product__43
theorem dX8_product__46 : decode cX8_product_ 46 = .ok (.iload_n 2, 1) := do_1c DX8_product__46
theorem dX8_product__47 : decode cX8_product_ 47 = .ok (.aaload, 1) := do_32 DX8_product__47
theorem dX8_product__48 : decode cX8_product_ 48 = .ok (.iconst 0, 1) := do_03 DX8_product__48
theorem dX8_product__49 : decode cX8_product_ 49 = .ok (.iaload, 1) := do_2e DX8_product__49
theorem dX8_product__50 : decode cX8_product_ 50 = .ok (.invokestatic 274, 3) := do_b8 DX8_product__50
theorem dX8_product__53 : decode cX8_product_ 53 = .ok (.astore 4, 2) := do_3a DX8_product__53
theorem dX8_product__55 : decode cX8_product_ 55 = .ok (.new 86, 3) := do_bb DX8_product__55
theorem dX8_product__58 : decode cX8_product_ 58 = .ok (.dup, 1) := do_59 DX8_product__58
theorem dX8_product__59 : decode cX8_product_ 59 = .ok (.invokespecial 88, 3) := do_b7 DX8_product__59
theorem dX8_product__62 : decode cX8_product_ 62 = .ok (.aload_n 3, 1) := do_2d DX8_product__62
theorem dX8_product__63 : decode cX8_product_ 63 = .ok (.iconst 0, 1) := do_03 DX8_product__63
theorem dX8_product__64 : decode cX8_product_ 64 = .ok (.iaload, 1) := do_2e DX8_product__64
theorem dX8_product__65 : decode cX8_product_ 65 = .ok (.aload 4, 2) := do_19 DX8_product__65
theorem dX8_product__67 : decode cX8_product_ 67 = .ok (.iconst 0, 1) := do_03 DX8_product__67
theorem dX8_product__68 : decode cX8_product_ 68 = .ok (.iaload, 1) := do_2e DX8_product__68
theorem dX8_product__69 : decode cX8_product_ 69 = .ok (.imul, 1) := do_68 DX8_product__69
theorem dX8_product__70 : decode cX8_product_ 70 = .ok (.aload_n 3, 1) := do_2d DX8_product__70
theorem dX8_product__71 : decode cX8_product_ 71 = .ok (.iconst 1, 1) := do_04 DX8_product__71
theorem dX8_product__72 : decode cX8_product_ 72 = .ok (.iaload, 1) := do_2e DX8_product__72
theorem dX8_product__73 : decode cX8_product_ 73 = .ok (.aload 4, 2) := do_19 DX8_product__73
theorem dX8_product__75 : decode cX8_product_ 75 = .ok (.iconst 1, 1) := do_04 DX8_product__75
theorem dX8_product__76 : decode cX8_product_ 76 = .ok (.iaload, 1) := do_2e DX8_product__76
theorem dX8_product__77 : decode cX8_product_ 77 = .ok (.imul, 1) := do_68 DX8_product__77
theorem dX8_product__78 : decode cX8_product_ 78 = .ok (.iadd, 1) := do_60 DX8_product__78
theorem dX8_product__79 : decode cX8_product_ 79 = .ok (.invokevirtual 204, 3) := do_b6 DX8_product__79
theorem dX8_product__82 : decode cX8_product_ 82 = .ok (.ldc 220, 2) := by decide +kernel
theorem dX8_product__84 : decode cX8_product_ 84 = .ok (.invokevirtual 222, 3) := do_b6 DX8_product__84
theorem dX8_product__87 : decode cX8_product_ 87 = .ok (.aload_n 3, 1) := do_2d DX8_product__87
theorem dX8_product__88 : decode cX8_product_ 88 = .ok (.iconst 0, 1) := do_03 DX8_product__88
theorem dX8_product__89 : decode cX8_product_ 89 = .ok (.iaload, 1) := do_2e DX8_product__89
theorem dX8_product__90 : decode cX8_product_ 90 = .ok (.aload 4, 2) := do_19 DX8_product__90
theorem dX8_product__92 : decode cX8_product_ 92 = .ok (.iconst 1, 1) := do_04 DX8_product__92
theorem dX8_product__93 : decode cX8_product_ 93 = .ok (.iaload, 1) := do_2e DX8_product__93
theorem dX8_product__94 : decode cX8_product_ 94 = .ok (.imul, 1) := do_68 DX8_product__94
theorem dX8_product__95 : decode cX8_product_ 95 = .ok (.aload_n 3, 1) := do_2d DX8_product__95
theorem dX8_product__96 : decode cX8_product_ 96 = .ok (.iconst 1, 1) := do_04 DX8_product__96
theorem dX8_product__97 : decode cX8_product_ 97 = .ok (.iaload, 1) := do_2e DX8_product__97
theorem dX8_product__98 : decode cX8_product_ 98 = .ok (.aload 4, 2) := do_19 DX8_product__98
theorem dX8_product__100 : decode cX8_product_ 100 = .ok (.iconst 0, 1) := do_03 DX8_product__100
theorem dX8_product__101 : decode cX8_product_ 101 = .ok (.iaload, 1) := do_2e DX8_product__101
theorem dX8_product__102 : decode cX8_product_ 102 = .ok (.imul, 1) := do_68 DX8_product__102
theorem dX8_product__103 : decode cX8_product_ 103 = .ok (.isub, 1) := do_64 DX8_product__103
theorem dX8_product__104 : decode cX8_product_ 104 = .ok (.invokestatic 196, 3) := do_b8 DX8_product__104
theorem dX8_product__107 : decode cX8_product_ 107 = .ok (.invokevirtual 204, 3) := do_b6 DX8_product__107
theorem dX8_product__110 : decode cX8_product_ 110 = .ok (.ldc 220, 2) := by decide +kernel
theorem dX8_product__112 : decode cX8_product_ 112 = .ok (.invokevirtual 222, 3) := do_b6 DX8_product__112
theorem dX8_product__115 : decode cX8_product_ 115 = .ok (.aload_n 3, 1) := do_2d DX8_product__115
theorem dX8_product__116 : decode cX8_product_ 116 = .ok (.iconst 0, 1) := do_03 DX8_product__116
theorem dX8_product__117 : decode cX8_product_ 117 = .ok (.iaload, 1) := do_2e DX8_product__117
theorem dX8_product__118 : decode cX8_product_ 118 = .ok (.aload 4, 2) := do_19 DX8_product__118
theorem dX8_product__120 : decode cX8_product_ 120 = .ok (.iconst 0, 1) := do_03 DX8_product__120
theorem dX8_product__121 : decode cX8_product_ 121 = .ok (.iaload, 1) := do_2e DX8_product__121
theorem dX8_product__122 : decode cX8_product_ 122 = .ok (.imul, 1) := do_68 DX8_product__122
theorem dX8_product__123 : decode cX8_product_ 123 = .ok (.aload_n 3, 1) := do_2d DX8_product__123
theorem dX8_product__124 : decode cX8_product_ 124 = .ok (.iconst 1, 1) := do_04 DX8_product__124
theorem dX8_product__125 : decode cX8_product_ 125 = .ok (.iaload, 1) := do_2e DX8_product__125
theorem dX8_product__126 : decode cX8_product_ 126 = .ok (.aload 4, 2) := do_19 DX8_product__126
theorem dX8_product__128 : decode cX8_product_ 128 = .ok (.iconst 1, 1) := do_04 DX8_product__128
theorem dX8_product__129 : decode cX8_product_ 129 = .ok (.iaload, 1) := do_2e DX8_product__129
theorem dX8_product__130 : decode cX8_product_ 130 = .ok (.imul, 1) := do_68 DX8_product__130
theorem dX8_product__131 : decode cX8_product_ 131 = .ok (.isub, 1) := do_64 DX8_product__131
theorem dX8_product__132 : decode cX8_product_ 132 = .ok (.invokestatic 196, 3) := do_b8 DX8_product__132
theorem dX8_product__135 : decode cX8_product_ 135 = .ok (.invokevirtual 204, 3) := do_b6 DX8_product__135
theorem dX8_product__138 : decode cX8_product_ 138 = .ok (.ldc 220, 2) := by decide +kernel
theorem dX8_product__140 : decode cX8_product_ 140 = .ok (.invokevirtual 222, 3) := do_b6 DX8_product__140
theorem dX8_product__143 : decode cX8_product_ 143 = .ok (.aload_n 3, 1) := do_2d DX8_product__143
theorem dX8_product__144 : decode cX8_product_ 144 = .ok (.iconst 0, 1) := do_03 DX8_product__144
theorem dX8_product__145 : decode cX8_product_ 145 = .ok (.iaload, 1) := do_2e DX8_product__145
theorem dX8_product__146 : decode cX8_product_ 146 = .ok (.aload 4, 2) := do_19 DX8_product__146
theorem dX8_product__148 : decode cX8_product_ 148 = .ok (.iconst 1, 1) := do_04 DX8_product__148
theorem dX8_product__149 : decode cX8_product_ 149 = .ok (.iaload, 1) := do_2e DX8_product__149
theorem dX8_product__150 : decode cX8_product_ 150 = .ok (.imul, 1) := do_68 DX8_product__150
theorem dX8_product__151 : decode cX8_product_ 151 = .ok (.aload_n 3, 1) := do_2d DX8_product__151
theorem dX8_product__152 : decode cX8_product_ 152 = .ok (.iconst 1, 1) := do_04 DX8_product__152
theorem dX8_product__153 : decode cX8_product_ 153 = .ok (.iaload, 1) := do_2e DX8_product__153
theorem dX8_product__154 : decode cX8_product_ 154 = .ok (.aload 4, 2) := do_19 DX8_product__154
theorem dX8_product__156 : decode cX8_product_ 156 = .ok (.iconst 0, 1) := do_03 DX8_product__156
theorem dX8_product__157 : decode cX8_product_ 157 = .ok (.iaload, 1) := do_2e DX8_product__157
theorem dX8_product__158 : decode cX8_product_ 158 = .ok (.imul, 1) := do_68 DX8_product__158
theorem dX8_product__159 : decode cX8_product_ 159 = .ok (.iadd, 1) := do_60 DX8_product__159
theorem dX8_product__160 : decode cX8_product_ 160 = .ok (.invokevirtual 204, 3) := do_b6 DX8_product__160
theorem dX8_product__163 : decode cX8_product_ 163 = .ok (.invokevirtual 113, 3) := do_b6 DX8_product__163
theorem dX8_product__166 : decode cX8_product_ 166 = .ok (.areturn, 1) := do_b0 DX8_product__166
def TX8_symbol_76 : List UInt8 := []
def TX8_symbol_75 : List UInt8 := 172 :: TX8_symbol_76
def TX8_symbol_73 : List UInt8 := 21 :: 4 :: TX8_symbol_75
def TX8_symbol_70 : List UInt8 := 167 :: 0 :: 5 :: TX8_symbol_73
def TX8_symbol_69 : List UInt8 := 2 :: TX8_symbol_70
def TX8_symbol_66 : List UInt8 := 160 :: 0 :: 7 :: TX8_symbol_69
def TX8_symbol_65 : List UInt8 := 100 :: TX8_symbol_66
def TX8_symbol_64 : List UInt8 := 4 :: TX8_symbol_65
def TX8_symbol_63 : List UInt8 := 29 :: TX8_symbol_64
def TX8_symbol_61 : List UInt8 := 21 :: 4 :: TX8_symbol_63
def TX8_symbol_59 : List UInt8 := 54 :: 4 :: TX8_symbol_61
def TX8_symbol_56 : List UInt8 := 184 :: 0 :: 250 :: TX8_symbol_59
def TX8_symbol_55 : List UInt8 := 29 :: TX8_symbol_56
def TX8_symbol_54 : List UInt8 := 108 :: TX8_symbol_55
def TX8_symbol_53 : List UInt8 := 5 :: TX8_symbol_54
def TX8_symbol_52 : List UInt8 := 100 :: TX8_symbol_53
def TX8_symbol_51 : List UInt8 := 4 :: TX8_symbol_52
def TX8_symbol_50 : List UInt8 := 29 :: TX8_symbol_51
def TX8_symbol_49 : List UInt8 := 28 :: TX8_symbol_50
def TX8_symbol_48 : List UInt8 := 62 :: TX8_symbol_49
def TX8_symbol_47 : List UInt8 := 46 :: TX8_symbol_48
def TX8_symbol_46 : List UInt8 := 3 :: TX8_symbol_47
def TX8_symbol_45 : List UInt8 := 50 :: TX8_symbol_46
def TX8_symbol_44 : List UInt8 := 27 :: TX8_symbol_45
def TX8_symbol_41 : List UInt8 := 180 :: 0 :: 35 :: TX8_symbol_44
def TX8_symbol_40 : List UInt8 := 42 :: TX8_symbol_41
def TX8_symbol_39 : List UInt8 := 172 :: TX8_symbol_40
def TX8_symbol_38 : List UInt8 := 3 :: TX8_symbol_39
def TX8_symbol_35 : List UInt8 := 153 :: 0 :: 5 :: TX8_symbol_38
def TX8_symbol_32 : List UInt8 := 182 :: 0 :: 45 :: TX8_symbol_35
def TX8_symbol_31 : List UInt8 := 5 :: TX8_symbol_32
def TX8_symbol_30 : List UInt8 := 3 :: TX8_symbol_31
def TX8_symbol_27 : List UInt8 := 167 :: 0 :: 4 :: TX8_symbol_30
def TX8_symbol_26 : List UInt8 := 4 :: TX8_symbol_27
def TX8_symbol_23 : List UInt8 := 154 :: 0 :: 7 :: TX8_symbol_26
def TX8_symbol_20 : List UInt8 := 184 :: 0 :: 49 :: TX8_symbol_23
def TX8_symbol_17 : List UInt8 := 17 :: 3 :: 231 :: TX8_symbol_20
def TX8_symbol_14 : List UInt8 := 17 :: 252 :: 25 :: TX8_symbol_17
def TX8_symbol_13 : List UInt8 := 28 :: TX8_symbol_14
def TX8_symbol_12 : List UInt8 := 42 :: TX8_symbol_13
def TX8_symbol_9 : List UInt8 := 154 :: 0 :: 29 :: TX8_symbol_12
def TX8_symbol_6 : List UInt8 := 182 :: 0 :: 149 :: TX8_symbol_9
def TX8_symbol_5 : List UInt8 := 4 :: TX8_symbol_6
def TX8_symbol_2 : List UInt8 := 184 :: 0 :: 145 :: TX8_symbol_5
def TX8_symbol_1 : List UInt8 := 27 :: TX8_symbol_2
def TX8_symbol_0 : List UInt8 := 42 :: TX8_symbol_1
theorem DX8_symbol_0 : cX8_symbol.data.toList.drop 0 = TX8_symbol_0 := by decide +kernel
theorem DX8_symbol_1 : cX8_symbol.data.toList.drop 1 = TX8_symbol_1 := dr1 DX8_symbol_0
theorem DX8_symbol_2 : cX8_symbol.data.toList.drop 2 = TX8_symbol_2 := dr1 DX8_symbol_1
theorem DX8_symbol_5 : cX8_symbol.data.toList.drop 5 = TX8_symbol_5 := dr3 DX8_symbol_2
theorem DX8_symbol_6 : cX8_symbol.data.toList.drop 6 = TX8_symbol_6 := dr1 DX8_symbol_5
theorem DX8_symbol_9 : cX8_symbol.data.toList.drop 9 = TX8_symbol_9 := dr3 DX8_symbol_6
theorem DX8_symbol_12 : cX8_symbol.data.toList.drop 12 = TX8_symbol_12 := dr3 DX8_symbol_9
theorem DX8_symbol_13 : cX8_symbol.data.toList.drop 13 = TX8_symbol_13 := dr1 DX8_symbol_12
theorem DX8_symbol_14 : cX8_symbol.data.toList.drop 14 = TX8_symbol_14 := dr1 DX8_symbol_13
theorem DX8_symbol_17 : cX8_symbol.data.toList.drop 17 = TX8_symbol_17 := dr3 DX8_symbol_14
theorem DX8_symbol_20 : cX8_symbol.data.toList.drop 20 = TX8_symbol_20 := dr3 DX8_symbol_17
theorem DX8_symbol_23 : cX8_symbol.data.toList.drop 23 = TX8_symbol_23 := dr3 DX8_symbol_20
theorem DX8_symbol_26 : cX8_symbol.data.toList.drop 26 = TX8_symbol_26 := dr3 DX8_symbol_23
theorem DX8_symbol_27 : cX8_symbol.data.toList.drop 27 = TX8_symbol_27 := dr1 DX8_symbol_26
theorem DX8_symbol_30 : cX8_symbol.data.toList.drop 30 = TX8_symbol_30 := dr3 DX8_symbol_27
theorem DX8_symbol_31 : cX8_symbol.data.toList.drop 31 = TX8_symbol_31 := dr1 DX8_symbol_30
theorem DX8_symbol_32 : cX8_symbol.data.toList.drop 32 = TX8_symbol_32 := dr1 DX8_symbol_31
theorem DX8_symbol_35 : cX8_symbol.data.toList.drop 35 = TX8_symbol_35 := dr3 DX8_symbol_32
theorem DX8_symbol_38 : cX8_symbol.data.toList.drop 38 = TX8_symbol_38 := dr3 DX8_symbol_35
theorem DX8_symbol_39 : cX8_symbol.data.toList.drop 39 = TX8_symbol_39 := dr1 DX8_symbol_38
theorem DX8_symbol_40 : cX8_symbol.data.toList.drop 40 = TX8_symbol_40 := dr1 DX8_symbol_39
theorem DX8_symbol_41 : cX8_symbol.data.toList.drop 41 = TX8_symbol_41 := dr1 DX8_symbol_40
theorem DX8_symbol_44 : cX8_symbol.data.toList.drop 44 = TX8_symbol_44 := dr3 DX8_symbol_41
theorem DX8_symbol_45 : cX8_symbol.data.toList.drop 45 = TX8_symbol_45 := dr1 DX8_symbol_44
theorem DX8_symbol_46 : cX8_symbol.data.toList.drop 46 = TX8_symbol_46 := dr1 DX8_symbol_45
theorem DX8_symbol_47 : cX8_symbol.data.toList.drop 47 = TX8_symbol_47 := dr1 DX8_symbol_46
theorem DX8_symbol_48 : cX8_symbol.data.toList.drop 48 = TX8_symbol_48 := dr1 DX8_symbol_47
theorem DX8_symbol_49 : cX8_symbol.data.toList.drop 49 = TX8_symbol_49 := dr1 DX8_symbol_48
theorem DX8_symbol_50 : cX8_symbol.data.toList.drop 50 = TX8_symbol_50 := dr1 DX8_symbol_49
theorem DX8_symbol_51 : cX8_symbol.data.toList.drop 51 = TX8_symbol_51 := dr1 DX8_symbol_50
theorem DX8_symbol_52 : cX8_symbol.data.toList.drop 52 = TX8_symbol_52 := dr1 DX8_symbol_51
theorem DX8_symbol_53 : cX8_symbol.data.toList.drop 53 = TX8_symbol_53 := dr1 DX8_symbol_52
theorem DX8_symbol_54 : cX8_symbol.data.toList.drop 54 = TX8_symbol_54 := dr1 DX8_symbol_53
theorem DX8_symbol_55 : cX8_symbol.data.toList.drop 55 = TX8_symbol_55 := dr1 DX8_symbol_54
theorem DX8_symbol_56 : cX8_symbol.data.toList.drop 56 = TX8_symbol_56 := dr1 DX8_symbol_55
theorem DX8_symbol_59 : cX8_symbol.data.toList.drop 59 = TX8_symbol_59 := dr3 DX8_symbol_56
theorem DX8_symbol_61 : cX8_symbol.data.toList.drop 61 = TX8_symbol_61 := dr2 DX8_symbol_59
theorem DX8_symbol_63 : cX8_symbol.data.toList.drop 63 = TX8_symbol_63 := dr2 DX8_symbol_61
theorem DX8_symbol_64 : cX8_symbol.data.toList.drop 64 = TX8_symbol_64 := dr1 DX8_symbol_63
theorem DX8_symbol_65 : cX8_symbol.data.toList.drop 65 = TX8_symbol_65 := dr1 DX8_symbol_64
theorem DX8_symbol_66 : cX8_symbol.data.toList.drop 66 = TX8_symbol_66 := dr1 DX8_symbol_65
theorem DX8_symbol_69 : cX8_symbol.data.toList.drop 69 = TX8_symbol_69 := dr3 DX8_symbol_66
theorem DX8_symbol_70 : cX8_symbol.data.toList.drop 70 = TX8_symbol_70 := dr1 DX8_symbol_69
theorem DX8_symbol_73 : cX8_symbol.data.toList.drop 73 = TX8_symbol_73 := dr3 DX8_symbol_70
theorem DX8_symbol_75 : cX8_symbol.data.toList.drop 75 = TX8_symbol_75 := dr2 DX8_symbol_73
theorem dX8_symbol_0 : decode cX8_symbol 0 = .ok (.aload_n 0, 1) := do_2a DX8_symbol_0
theorem dX8_symbol_1 : decode cX8_symbol 1 = .ok (.iload_n 1, 1) := do_1b DX8_symbol_1
theorem dX8_symbol_2 : decode cX8_symbol 2 = .ok (.invokestatic 145, 3) := do_b8 DX8_symbol_2
theorem dX8_symbol_5 : decode cX8_symbol 5 = .ok (.iconst 1, 1) := do_04 DX8_symbol_5
theorem dX8_symbol_6 : decode cX8_symbol 6 = .ok (.invokevirtual 149, 3) := do_b6 DX8_symbol_6
theorem dX8_symbol_9 : decode cX8_symbol 9 = .ok (.ifCond .ne 29, 3) := do_9a DX8_symbol_9 (by decide +kernel)
theorem dX8_symbol_12 : decode cX8_symbol 12 = .ok (.aload_n 0, 1) := do_2a DX8_symbol_12
theorem dX8_symbol_13 : decode cX8_symbol 13 = .ok (.iload_n 2, 1) := do_1c DX8_symbol_13
theorem dX8_symbol_14 : decode cX8_symbol 14 = .ok (.sipush (-999), 3) := do_11 DX8_symbol_14 (by decide +kernel)
theorem dX8_symbol_17 : decode cX8_symbol 17 = .ok (.sipush 999, 3) := do_11 DX8_symbol_17 (by decide +kernel)
theorem dX8_symbol_20 : decode cX8_symbol 20 = .ok (.invokestatic 49, 3) := do_b8 DX8_symbol_20
theorem dX8_symbol_23 : decode cX8_symbol 23 = .ok (.ifCond .ne 7, 3) := do_9a DX8_symbol_23 (by decide +kernel)
theorem dX8_symbol_26 : decode cX8_symbol 26 = .ok (.iconst 1, 1) := do_04 DX8_symbol_26
theorem dX8_symbol_27 : decode cX8_symbol 27 = .ok (.goto 4, 3) := do_a7 DX8_symbol_27 (by decide +kernel)
theorem dX8_symbol_30 : decode cX8_symbol 30 = .ok (.iconst 0, 1) := do_03 DX8_symbol_30
theorem dX8_symbol_31 : decode cX8_symbol 31 = .ok (.iconst 2, 1) := do_05 DX8_symbol_31
theorem dX8_symbol_32 : decode cX8_symbol 32 = .ok (.invokevirtual 45, 3) := do_b6 DX8_symbol_32
theorem dX8_symbol_35 : decode cX8_symbol 35 = .ok (.ifCond .eq 5, 3) := do_99 DX8_symbol_35 (by decide +kernel)
theorem dX8_symbol_38 : decode cX8_symbol 38 = .ok (.iconst 0, 1) := do_03 DX8_symbol_38
theorem dX8_symbol_39 : decode cX8_symbol 39 = .ok (.ireturn, 1) := do_ac DX8_symbol_39
theorem dX8_symbol_40 : decode cX8_symbol 40 = .ok (.aload_n 0, 1) := do_2a DX8_symbol_40
theorem dX8_symbol_41 : decode cX8_symbol 41 = .ok (.getfield 35, 3) := do_b4 DX8_symbol_41
theorem dX8_symbol_44 : decode cX8_symbol 44 = .ok (.iload_n 1, 1) := do_1b DX8_symbol_44
theorem dX8_symbol_45 : decode cX8_symbol 45 = .ok (.aaload, 1) := do_32 DX8_symbol_45
theorem dX8_symbol_46 : decode cX8_symbol 46 = .ok (.iconst 0, 1) := do_03 DX8_symbol_46
theorem dX8_symbol_47 : decode cX8_symbol 47 = .ok (.iaload, 1) := do_2e DX8_symbol_47
theorem dX8_symbol_48 : decode cX8_symbol 48 = .ok (.istore_n 3, 1) := do_3e DX8_symbol_48
theorem dX8_symbol_49 : decode cX8_symbol 49 = .ok (.iload_n 2, 1) := do_1c DX8_symbol_49
theorem dX8_symbol_50 : decode cX8_symbol 50 = .ok (.iload_n 3, 1) := do_1d DX8_symbol_50
theorem dX8_symbol_51 : decode cX8_symbol 51 = .ok (.iconst 1, 1) := do_04 DX8_symbol_51
theorem dX8_symbol_52 : decode cX8_symbol 52 = .ok (.isub, 1) := do_64 DX8_symbol_52
theorem dX8_symbol_53 : decode cX8_symbol 53 = .ok (.iconst 2, 1) := do_05 DX8_symbol_53
theorem dX8_symbol_54 : decode cX8_symbol 54 = .ok (.idiv, 1) := do_6c DX8_symbol_54
theorem dX8_symbol_55 : decode cX8_symbol 55 = .ok (.iload_n 3, 1) := do_1d DX8_symbol_55
theorem dX8_symbol_56 : decode cX8_symbol 56 = .ok (.invokestatic 250, 3) := do_b8 DX8_symbol_56
theorem dX8_symbol_59 : decode cX8_symbol 59 = .ok (.istore 4, 2) := do_36 DX8_symbol_59
theorem dX8_symbol_61 : decode cX8_symbol 61 = .ok (.iload 4, 2) := do_15 DX8_symbol_61
theorem dX8_symbol_63 : decode cX8_symbol 63 = .ok (.iload_n 3, 1) := do_1d DX8_symbol_63
theorem dX8_symbol_64 : decode cX8_symbol 64 = .ok (.iconst 1, 1) := do_04 DX8_symbol_64
theorem dX8_symbol_65 : decode cX8_symbol 65 = .ok (.isub, 1) := do_64 DX8_symbol_65
theorem dX8_symbol_66 : decode cX8_symbol 66 = .ok (.if_icmp .ne 7, 3) := do_a0 DX8_symbol_66 (by decide +kernel)
theorem dX8_symbol_69 : decode cX8_symbol 69 = .ok (.iconst (-1), 1) := do_02 DX8_symbol_69
theorem dX8_symbol_70 : decode cX8_symbol 70 = .ok (.goto 5, 3) := do_a7 DX8_symbol_70 (by decide +kernel)
theorem dX8_symbol_73 : decode cX8_symbol 73 = .ok (.iload 4, 2) := do_15 DX8_symbol_73
theorem dX8_symbol_75 : decode cX8_symbol 75 = .ok (.ireturn, 1) := do_ac DX8_symbol_75
def TX8_inverse_85 : List UInt8 := []
def TX8_inverse_84 : List UInt8 := 172 :: TX8_inverse_85
def TX8_inverse_83 : List UInt8 := 3 :: TX8_inverse_84
def TX8_inverse_80 : List UInt8 := 167 :: 255 :: 228 :: TX8_inverse_83
def TX8_inverse_77 : List UInt8 := 132 :: 4 :: 1 :: TX8_inverse_80
def TX8_inverse_76 : List UInt8 := 172 :: TX8_inverse_77
def TX8_inverse_74 : List UInt8 := 21 :: 4 :: TX8_inverse_76
def TX8_inverse_71 : List UInt8 := 160 :: 0 :: 6 :: TX8_inverse_74
def TX8_inverse_70 : List UInt8 := 4 :: TX8_inverse_71
def TX8_inverse_69 : List UInt8 := 112 :: TX8_inverse_70
def TX8_inverse_68 : List UInt8 := 29 :: TX8_inverse_69
def TX8_inverse_67 : List UInt8 := 104 :: TX8_inverse_68
def TX8_inverse_65 : List UInt8 := 21 :: 4 :: TX8_inverse_67
def TX8_inverse_64 : List UInt8 := 112 :: TX8_inverse_65
def TX8_inverse_63 : List UInt8 := 29 :: TX8_inverse_64
def TX8_inverse_62 : List UInt8 := 96 :: TX8_inverse_63
def TX8_inverse_61 : List UInt8 := 29 :: TX8_inverse_62
def TX8_inverse_60 : List UInt8 := 112 :: TX8_inverse_61
def TX8_inverse_59 : List UInt8 := 29 :: TX8_inverse_60
def TX8_inverse_58 : List UInt8 := 28 :: TX8_inverse_59
def TX8_inverse_55 : List UInt8 := 162 :: 0 :: 28 :: TX8_inverse_58
def TX8_inverse_54 : List UInt8 := 29 :: TX8_inverse_55
def TX8_inverse_52 : List UInt8 := 21 :: 4 :: TX8_inverse_54
def TX8_inverse_50 : List UInt8 := 54 :: 4 :: TX8_inverse_52
def TX8_inverse_49 : List UInt8 := 4 :: TX8_inverse_50
def TX8_inverse_48 : List UInt8 := 62 :: TX8_inverse_49
def TX8_inverse_47 : List UInt8 := 46 :: TX8_inverse_48
def TX8_inverse_46 : List UInt8 := 3 :: TX8_inverse_47
def TX8_inverse_45 : List UInt8 := 50 :: TX8_inverse_46
def TX8_inverse_44 : List UInt8 := 27 :: TX8_inverse_45
def TX8_inverse_41 : List UInt8 := 180 :: 0 :: 35 :: TX8_inverse_44
def TX8_inverse_40 : List UInt8 := 42 :: TX8_inverse_41
def TX8_inverse_39 : List UInt8 := 172 :: TX8_inverse_40
def TX8_inverse_38 : List UInt8 := 3 :: TX8_inverse_39
def TX8_inverse_35 : List UInt8 := 153 :: 0 :: 5 :: TX8_inverse_38
def TX8_inverse_32 : List UInt8 := 182 :: 0 :: 45 :: TX8_inverse_35
def TX8_inverse_31 : List UInt8 := 5 :: TX8_inverse_32
def TX8_inverse_30 : List UInt8 := 3 :: TX8_inverse_31
def TX8_inverse_27 : List UInt8 := 167 :: 0 :: 4 :: TX8_inverse_30
def TX8_inverse_26 : List UInt8 := 4 :: TX8_inverse_27
def TX8_inverse_23 : List UInt8 := 154 :: 0 :: 7 :: TX8_inverse_26
def TX8_inverse_20 : List UInt8 := 184 :: 0 :: 49 :: TX8_inverse_23
def TX8_inverse_17 : List UInt8 := 17 :: 3 :: 231 :: TX8_inverse_20
def TX8_inverse_14 : List UInt8 := 17 :: 252 :: 25 :: TX8_inverse_17
def TX8_inverse_13 : List UInt8 := 28 :: TX8_inverse_14
def TX8_inverse_12 : List UInt8 := 42 :: TX8_inverse_13
def TX8_inverse_9 : List UInt8 := 154 :: 0 :: 29 :: TX8_inverse_12
def TX8_inverse_6 : List UInt8 := 182 :: 0 :: 149 :: TX8_inverse_9
def TX8_inverse_5 : List UInt8 := 4 :: TX8_inverse_6
def TX8_inverse_2 : List UInt8 := 184 :: 0 :: 145 :: TX8_inverse_5
def TX8_inverse_1 : List UInt8 := 27 :: TX8_inverse_2
def TX8_inverse_0 : List UInt8 := 42 :: TX8_inverse_1
theorem DX8_inverse_0 : cX8_inverse.data.toList.drop 0 = TX8_inverse_0 := by decide +kernel
theorem DX8_inverse_1 : cX8_inverse.data.toList.drop 1 = TX8_inverse_1 := dr1 DX8_inverse_0
theorem DX8_inverse_2 : cX8_inverse.data.toList.drop 2 = TX8_inverse_2 := dr1 DX8_inverse_1
theorem DX8_inverse_5 : cX8_inverse.data.toList.drop 5 = TX8_inverse_5 := dr3 DX8_inverse_2
theorem DX8_inverse_6 : cX8_inverse.data.toList.drop 6 = TX8_inverse_6 := dr1 DX8_inverse_5
theorem DX8_inverse_9 : cX8_inverse.data.toList.drop 9 = TX8_inverse_9 := dr3 DX8_inverse_6
theorem DX8_inverse_12 : cX8_inverse.data.toList.drop 12 = TX8_inverse_12 := dr3 DX8_inverse_9
theorem DX8_inverse_13 : cX8_inverse.data.toList.drop 13 = TX8_inverse_13 := dr1 DX8_inverse_12
theorem DX8_inverse_14 : cX8_inverse.data.toList.drop 14 = TX8_inverse_14 := dr1 DX8_inverse_13
theorem DX8_inverse_17 : cX8_inverse.data.toList.drop 17 = TX8_inverse_17 := dr3 DX8_inverse_14
theorem DX8_inverse_20 : cX8_inverse.data.toList.drop 20 = TX8_inverse_20 := dr3 DX8_inverse_17
theorem DX8_inverse_23 : cX8_inverse.data.toList.drop 23 = TX8_inverse_23 := dr3 DX8_inverse_20
theorem DX8_inverse_26 : cX8_inverse.data.toList.drop 26 = TX8_inverse_26 := dr3 DX8_inverse_23
theorem DX8_inverse_27 : cX8_inverse.data.toList.drop 27 = TX8_inverse_27 := dr1 DX8_inverse_26
theorem DX8_inverse_30 : cX8_inverse.data.toList.drop 30 = TX8_inverse_30 := dr3 DX8_inverse_27
theorem DX8_inverse_31 : cX8_inverse.data.toList.drop 31 = TX8_inverse_31 := dr1 DX8_inverse_30
theorem DX8_inverse_32 : cX8_inverse.data.toList.drop 32 = TX8_inverse_32 := dr1 DX8_inverse_31
theorem DX8_inverse_35 : cX8_inverse.data.toList.drop 35 = TX8_inverse_35 := dr3 DX8_inverse_32
theorem DX8_inverse_38 : cX8_inverse.data.toList.drop 38 = TX8_inverse_38 := dr3 DX8_inverse_35
theorem DX8_inverse_39 : cX8_inverse.data.toList.drop 39 = TX8_inverse_39 := dr1 DX8_inverse_38
theorem DX8_inverse_40 : cX8_inverse.data.toList.drop 40 = TX8_inverse_40 := dr1 DX8_inverse_39
theorem DX8_inverse_41 : cX8_inverse.data.toList.drop 41 = TX8_inverse_41 := dr1 DX8_inverse_40
theorem DX8_inverse_44 : cX8_inverse.data.toList.drop 44 = TX8_inverse_44 := dr3 DX8_inverse_41
theorem DX8_inverse_45 : cX8_inverse.data.toList.drop 45 = TX8_inverse_45 := dr1 DX8_inverse_44
theorem DX8_inverse_46 : cX8_inverse.data.toList.drop 46 = TX8_inverse_46 := dr1 DX8_inverse_45
theorem DX8_inverse_47 : cX8_inverse.data.toList.drop 47 = TX8_inverse_47 := dr1 DX8_inverse_46
theorem DX8_inverse_48 : cX8_inverse.data.toList.drop 48 = TX8_inverse_48 := dr1 DX8_inverse_47
theorem DX8_inverse_49 : cX8_inverse.data.toList.drop 49 = TX8_inverse_49 := dr1 DX8_inverse_48
theorem DX8_inverse_50 : cX8_inverse.data.toList.drop 50 = TX8_inverse_50 := dr1 DX8_inverse_49
theorem DX8_inverse_52 : cX8_inverse.data.toList.drop 52 = TX8_inverse_52 := dr2 DX8_inverse_50
theorem DX8_inverse_54 : cX8_inverse.data.toList.drop 54 = TX8_inverse_54 := dr2 DX8_inverse_52
theorem DX8_inverse_55 : cX8_inverse.data.toList.drop 55 = TX8_inverse_55 := dr1 DX8_inverse_54
theorem DX8_inverse_58 : cX8_inverse.data.toList.drop 58 = TX8_inverse_58 := dr3 DX8_inverse_55
theorem DX8_inverse_59 : cX8_inverse.data.toList.drop 59 = TX8_inverse_59 := dr1 DX8_inverse_58
theorem DX8_inverse_60 : cX8_inverse.data.toList.drop 60 = TX8_inverse_60 := dr1 DX8_inverse_59
theorem DX8_inverse_61 : cX8_inverse.data.toList.drop 61 = TX8_inverse_61 := dr1 DX8_inverse_60
theorem DX8_inverse_62 : cX8_inverse.data.toList.drop 62 = TX8_inverse_62 := dr1 DX8_inverse_61
theorem DX8_inverse_63 : cX8_inverse.data.toList.drop 63 = TX8_inverse_63 := dr1 DX8_inverse_62
theorem DX8_inverse_64 : cX8_inverse.data.toList.drop 64 = TX8_inverse_64 := dr1 DX8_inverse_63
theorem DX8_inverse_65 : cX8_inverse.data.toList.drop 65 = TX8_inverse_65 := dr1 DX8_inverse_64
theorem DX8_inverse_67 : cX8_inverse.data.toList.drop 67 = TX8_inverse_67 := dr2 DX8_inverse_65
theorem DX8_inverse_68 : cX8_inverse.data.toList.drop 68 = TX8_inverse_68 := dr1 DX8_inverse_67
theorem DX8_inverse_69 : cX8_inverse.data.toList.drop 69 = TX8_inverse_69 := dr1 DX8_inverse_68
theorem DX8_inverse_70 : cX8_inverse.data.toList.drop 70 = TX8_inverse_70 := dr1 DX8_inverse_69
theorem DX8_inverse_71 : cX8_inverse.data.toList.drop 71 = TX8_inverse_71 := dr1 DX8_inverse_70
theorem DX8_inverse_74 : cX8_inverse.data.toList.drop 74 = TX8_inverse_74 := dr3 DX8_inverse_71
theorem DX8_inverse_76 : cX8_inverse.data.toList.drop 76 = TX8_inverse_76 := dr2 DX8_inverse_74
theorem DX8_inverse_77 : cX8_inverse.data.toList.drop 77 = TX8_inverse_77 := dr1 DX8_inverse_76
theorem DX8_inverse_80 : cX8_inverse.data.toList.drop 80 = TX8_inverse_80 := dr3 DX8_inverse_77
theorem DX8_inverse_83 : cX8_inverse.data.toList.drop 83 = TX8_inverse_83 := dr3 DX8_inverse_80
theorem DX8_inverse_84 : cX8_inverse.data.toList.drop 84 = TX8_inverse_84 := dr1 DX8_inverse_83
theorem dX8_inverse_0 : decode cX8_inverse 0 = .ok (.aload_n 0, 1) := do_2a DX8_inverse_0
theorem dX8_inverse_1 : decode cX8_inverse 1 = .ok (.iload_n 1, 1) := do_1b DX8_inverse_1
theorem dX8_inverse_2 : decode cX8_inverse 2 = .ok (.invokestatic 145, 3) := do_b8 DX8_inverse_2
theorem dX8_inverse_5 : decode cX8_inverse 5 = .ok (.iconst 1, 1) := do_04 DX8_inverse_5
theorem dX8_inverse_6 : decode cX8_inverse 6 = .ok (.invokevirtual 149, 3) := do_b6 DX8_inverse_6
theorem dX8_inverse_9 : decode cX8_inverse 9 = .ok (.ifCond .ne 29, 3) := do_9a DX8_inverse_9 (by decide +kernel)
theorem dX8_inverse_12 : decode cX8_inverse 12 = .ok (.aload_n 0, 1) := do_2a DX8_inverse_12
theorem dX8_inverse_13 : decode cX8_inverse 13 = .ok (.iload_n 2, 1) := do_1c DX8_inverse_13
theorem dX8_inverse_14 : decode cX8_inverse 14 = .ok (.sipush (-999), 3) := do_11 DX8_inverse_14 (by decide +kernel)
theorem dX8_inverse_17 : decode cX8_inverse 17 = .ok (.sipush 999, 3) := do_11 DX8_inverse_17 (by decide +kernel)
theorem dX8_inverse_20 : decode cX8_inverse 20 = .ok (.invokestatic 49, 3) := do_b8 DX8_inverse_20
theorem dX8_inverse_23 : decode cX8_inverse 23 = .ok (.ifCond .ne 7, 3) := do_9a DX8_inverse_23 (by decide +kernel)
theorem dX8_inverse_26 : decode cX8_inverse 26 = .ok (.iconst 1, 1) := do_04 DX8_inverse_26
theorem dX8_inverse_27 : decode cX8_inverse 27 = .ok (.goto 4, 3) := do_a7 DX8_inverse_27 (by decide +kernel)
theorem dX8_inverse_30 : decode cX8_inverse 30 = .ok (.iconst 0, 1) := do_03 DX8_inverse_30
theorem dX8_inverse_31 : decode cX8_inverse 31 = .ok (.iconst 2, 1) := do_05 DX8_inverse_31
theorem dX8_inverse_32 : decode cX8_inverse 32 = .ok (.invokevirtual 45, 3) := do_b6 DX8_inverse_32
theorem dX8_inverse_35 : decode cX8_inverse 35 = .ok (.ifCond .eq 5, 3) := do_99 DX8_inverse_35 (by decide +kernel)
theorem dX8_inverse_38 : decode cX8_inverse 38 = .ok (.iconst 0, 1) := do_03 DX8_inverse_38
theorem dX8_inverse_39 : decode cX8_inverse 39 = .ok (.ireturn, 1) := do_ac DX8_inverse_39
theorem dX8_inverse_40 : decode cX8_inverse 40 = .ok (.aload_n 0, 1) := do_2a DX8_inverse_40
theorem dX8_inverse_41 : decode cX8_inverse 41 = .ok (.getfield 35, 3) := do_b4 DX8_inverse_41
theorem dX8_inverse_44 : decode cX8_inverse 44 = .ok (.iload_n 1, 1) := do_1b DX8_inverse_44
theorem dX8_inverse_45 : decode cX8_inverse 45 = .ok (.aaload, 1) := do_32 DX8_inverse_45
theorem dX8_inverse_46 : decode cX8_inverse 46 = .ok (.iconst 0, 1) := do_03 DX8_inverse_46
theorem dX8_inverse_47 : decode cX8_inverse 47 = .ok (.iaload, 1) := do_2e DX8_inverse_47
theorem dX8_inverse_48 : decode cX8_inverse 48 = .ok (.istore_n 3, 1) := do_3e DX8_inverse_48
theorem dX8_inverse_49 : decode cX8_inverse 49 = .ok (.iconst 1, 1) := do_04 DX8_inverse_49
theorem dX8_inverse_50 : decode cX8_inverse 50 = .ok (.istore 4, 2) := do_36 DX8_inverse_50
theorem dX8_inverse_52 : decode cX8_inverse 52 = .ok (.iload 4, 2) := do_15 DX8_inverse_52
theorem dX8_inverse_54 : decode cX8_inverse 54 = .ok (.iload_n 3, 1) := do_1d DX8_inverse_54
theorem dX8_inverse_55 : decode cX8_inverse 55 = .ok (.if_icmp .ge 28, 3) := do_a2 DX8_inverse_55 (by decide +kernel)
theorem dX8_inverse_58 : decode cX8_inverse 58 = .ok (.iload_n 2, 1) := do_1c DX8_inverse_58
theorem dX8_inverse_59 : decode cX8_inverse 59 = .ok (.iload_n 3, 1) := do_1d DX8_inverse_59
theorem dX8_inverse_60 : decode cX8_inverse 60 = .ok (.irem, 1) := do_70 DX8_inverse_60
theorem dX8_inverse_61 : decode cX8_inverse 61 = .ok (.iload_n 3, 1) := do_1d DX8_inverse_61
theorem dX8_inverse_62 : decode cX8_inverse 62 = .ok (.iadd, 1) := do_60 DX8_inverse_62
theorem dX8_inverse_63 : decode cX8_inverse 63 = .ok (.iload_n 3, 1) := do_1d DX8_inverse_63
theorem dX8_inverse_64 : decode cX8_inverse 64 = .ok (.irem, 1) := do_70 DX8_inverse_64
theorem dX8_inverse_65 : decode cX8_inverse 65 = .ok (.iload 4, 2) := do_15 DX8_inverse_65
theorem dX8_inverse_67 : decode cX8_inverse 67 = .ok (.imul, 1) := do_68 DX8_inverse_67
theorem dX8_inverse_68 : decode cX8_inverse 68 = .ok (.iload_n 3, 1) := do_1d DX8_inverse_68
theorem dX8_inverse_69 : decode cX8_inverse 69 = .ok (.irem, 1) := do_70 DX8_inverse_69
theorem dX8_inverse_70 : decode cX8_inverse 70 = .ok (.iconst 1, 1) := do_04 DX8_inverse_70
theorem dX8_inverse_71 : decode cX8_inverse 71 = .ok (.if_icmp .ne 6, 3) := do_a0 DX8_inverse_71 (by decide +kernel)
theorem dX8_inverse_74 : decode cX8_inverse 74 = .ok (.iload 4, 2) := do_15 DX8_inverse_74
theorem dX8_inverse_76 : decode cX8_inverse 76 = .ok (.ireturn, 1) := do_ac DX8_inverse_76
theorem dX8_inverse_77 : decode cX8_inverse 77 = .ok (.iinc 4 1, 3) := do_84 DX8_inverse_77
theorem dX8_inverse_80 : decode cX8_inverse 80 = .ok (.goto (-28), 3) := do_a7 DX8_inverse_80 (by decide +kernel)
theorem dX8_inverse_83 : decode cX8_inverse 83 = .ok (.iconst 0, 1) := do_03 DX8_inverse_83
theorem dX8_inverse_84 : decode cX8_inverse 84 = .ok (.ireturn, 1) := do_ac DX8_inverse_84
def TX8_isPrime_37 : List UInt8 := []
def TX8_isPrime_36 : List UInt8 := 172 :: TX8_isPrime_37
def TX8_isPrime_35 : List UInt8 := 3 :: TX8_isPrime_36
def TX8_isPrime_32 : List UInt8 := 167 :: 0 :: 4 :: TX8_isPrime_35
def TX8_isPrime_31 : List UInt8 := 4 :: TX8_isPrime_32
def TX8_isPrime_28 : List UInt8 := 153 :: 0 :: 7 :: TX8_isPrime_31
def TX8_isPrime_25 : List UInt8 := 184 :: 1 :: 8 :: TX8_isPrime_28
def TX8_isPrime_24 : List UInt8 := 27 :: TX8_isPrime_25
def TX8_isPrime_21 : List UInt8 := 154 :: 0 :: 14 :: TX8_isPrime_24
def TX8_isPrime_18 : List UInt8 := 182 :: 0 :: 149 :: TX8_isPrime_21
def TX8_isPrime_17 : List UInt8 := 4 :: TX8_isPrime_18
def TX8_isPrime_16 : List UInt8 := 3 :: TX8_isPrime_17
def TX8_isPrime_13 : List UInt8 := 167 :: 0 :: 4 :: TX8_isPrime_16
def TX8_isPrime_12 : List UInt8 := 4 :: TX8_isPrime_13
def TX8_isPrime_9 : List UInt8 := 154 :: 0 :: 7 :: TX8_isPrime_12
def TX8_isPrime_6 : List UInt8 := 184 :: 0 :: 49 :: TX8_isPrime_9
def TX8_isPrime_3 : List UInt8 := 17 :: 3 :: 231 :: TX8_isPrime_6
def TX8_isPrime_2 : List UInt8 := 3 :: TX8_isPrime_3
def TX8_isPrime_1 : List UInt8 := 27 :: TX8_isPrime_2
def TX8_isPrime_0 : List UInt8 := 42 :: TX8_isPrime_1
theorem DX8_isPrime_0 : cX8_isPrime.data.toList.drop 0 = TX8_isPrime_0 := by decide +kernel
theorem DX8_isPrime_1 : cX8_isPrime.data.toList.drop 1 = TX8_isPrime_1 := dr1 DX8_isPrime_0
theorem DX8_isPrime_2 : cX8_isPrime.data.toList.drop 2 = TX8_isPrime_2 := dr1 DX8_isPrime_1
theorem DX8_isPrime_3 : cX8_isPrime.data.toList.drop 3 = TX8_isPrime_3 := dr1 DX8_isPrime_2
theorem DX8_isPrime_6 : cX8_isPrime.data.toList.drop 6 = TX8_isPrime_6 := dr3 DX8_isPrime_3
theorem DX8_isPrime_9 : cX8_isPrime.data.toList.drop 9 = TX8_isPrime_9 := dr3 DX8_isPrime_6
theorem DX8_isPrime_12 : cX8_isPrime.data.toList.drop 12 = TX8_isPrime_12 := dr3 DX8_isPrime_9
theorem DX8_isPrime_13 : cX8_isPrime.data.toList.drop 13 = TX8_isPrime_13 := dr1 DX8_isPrime_12
theorem DX8_isPrime_16 : cX8_isPrime.data.toList.drop 16 = TX8_isPrime_16 := dr3 DX8_isPrime_13
theorem DX8_isPrime_17 : cX8_isPrime.data.toList.drop 17 = TX8_isPrime_17 := dr1 DX8_isPrime_16
theorem DX8_isPrime_18 : cX8_isPrime.data.toList.drop 18 = TX8_isPrime_18 := dr1 DX8_isPrime_17
theorem DX8_isPrime_21 : cX8_isPrime.data.toList.drop 21 = TX8_isPrime_21 := dr3 DX8_isPrime_18
theorem DX8_isPrime_24 : cX8_isPrime.data.toList.drop 24 = TX8_isPrime_24 := dr3 DX8_isPrime_21
theorem DX8_isPrime_25 : cX8_isPrime.data.toList.drop 25 = TX8_isPrime_25 := dr1 DX8_isPrime_24
theorem DX8_isPrime_28 : cX8_isPrime.data.toList.drop 28 = TX8_isPrime_28 := dr3 DX8_isPrime_25
theorem DX8_isPrime_31 : cX8_isPrime.data.toList.drop 31 = TX8_isPrime_31 := dr3 DX8_isPrime_28
theorem DX8_isPrime_32 : cX8_isPrime.data.toList.drop 32 = TX8_isPrime_32 := dr1 DX8_isPrime_31
theorem DX8_isPrime_35 : cX8_isPrime.data.toList.drop 35 = TX8_isPrime_35 := dr3 DX8_isPrime_32
theorem DX8_isPrime_36 : cX8_isPrime.data.toList.drop 36 = TX8_isPrime_36 := dr1 DX8_isPrime_35
theorem dX8_isPrime_0 : decode cX8_isPrime 0 = .ok (.aload_n 0, 1) := do_2a DX8_isPrime_0
theorem dX8_isPrime_1 : decode cX8_isPrime 1 = .ok (.iload_n 1, 1) := do_1b DX8_isPrime_1
theorem dX8_isPrime_2 : decode cX8_isPrime 2 = .ok (.iconst 0, 1) := do_03 DX8_isPrime_2
theorem dX8_isPrime_3 : decode cX8_isPrime 3 = .ok (.sipush 999, 3) := do_11 DX8_isPrime_3 (by decide +kernel)
theorem dX8_isPrime_6 : decode cX8_isPrime 6 = .ok (.invokestatic 49, 3) := do_b8 DX8_isPrime_6
theorem dX8_isPrime_9 : decode cX8_isPrime 9 = .ok (.ifCond .ne 7, 3) := do_9a DX8_isPrime_9 (by decide +kernel)
theorem dX8_isPrime_12 : decode cX8_isPrime 12 = .ok (.iconst 1, 1) := do_04 DX8_isPrime_12
theorem dX8_isPrime_13 : decode cX8_isPrime 13 = .ok (.goto 4, 3) := do_a7 DX8_isPrime_13 (by decide +kernel)
theorem dX8_isPrime_16 : decode cX8_isPrime 16 = .ok (.iconst 0, 1) := do_03 DX8_isPrime_16
theorem dX8_isPrime_17 : decode cX8_isPrime 17 = .ok (.iconst 1, 1) := do_04 DX8_isPrime_17
theorem dX8_isPrime_18 : decode cX8_isPrime 18 = .ok (.invokevirtual 149, 3) := do_b6 DX8_isPrime_18
theorem dX8_isPrime_21 : decode cX8_isPrime 21 = .ok (.ifCond .ne 14, 3) := do_9a DX8_isPrime_21 (by decide +kernel)
theorem dX8_isPrime_24 : decode cX8_isPrime 24 = .ok (.iload_n 1, 1) := do_1b DX8_isPrime_24
theorem dX8_isPrime_25 : decode cX8_isPrime 25 = .ok (.invokestatic 264, 3) := do_b8 DX8_isPrime_25
theorem dX8_isPrime_28 : decode cX8_isPrime 28 = .ok (.ifCond .eq 7, 3) := do_99 DX8_isPrime_28 (by decide +kernel)
theorem dX8_isPrime_31 : decode cX8_isPrime 31 = .ok (.iconst 1, 1) := do_04 DX8_isPrime_31
theorem dX8_isPrime_32 : decode cX8_isPrime 32 = .ok (.goto 4, 3) := do_a7 DX8_isPrime_32 (by decide +kernel)
theorem dX8_isPrime_35 : decode cX8_isPrime 35 = .ok (.iconst 0, 1) := do_03 DX8_isPrime_35
theorem dX8_isPrime_36 : decode cX8_isPrime 36 = .ok (.ireturn, 1) := do_ac DX8_isPrime_36
def TX8_house_33 : List UInt8 := []
def TX8_house_32 : List UInt8 := 172 :: TX8_house_33
def TX8_house_31 : List UInt8 := 46 :: TX8_house_32
def TX8_house_30 : List UInt8 := 27 :: TX8_house_31
def TX8_house_27 : List UInt8 := 180 :: 0 :: 38 :: TX8_house_30
def TX8_house_26 : List UInt8 := 42 :: TX8_house_27
def TX8_house_23 : List UInt8 := 167 :: 0 :: 9 :: TX8_house_26
def TX8_house_22 : List UInt8 := 3 :: TX8_house_23
def TX8_house_19 : List UInt8 := 153 :: 0 :: 7 :: TX8_house_22
def TX8_house_16 : List UInt8 := 182 :: 0 :: 149 :: TX8_house_19
def TX8_house_15 : List UInt8 := 4 :: TX8_house_16
def TX8_house_14 : List UInt8 := 3 :: TX8_house_15
def TX8_house_11 : List UInt8 := 167 :: 0 :: 4 :: TX8_house_14
def TX8_house_10 : List UInt8 := 4 :: TX8_house_11
def TX8_house_7 : List UInt8 := 154 :: 0 :: 7 :: TX8_house_10
def TX8_house_4 : List UInt8 := 184 :: 0 :: 49 :: TX8_house_7
def TX8_house_3 : List UInt8 := 7 :: TX8_house_4
def TX8_house_2 : List UInt8 := 3 :: TX8_house_3
def TX8_house_1 : List UInt8 := 27 :: TX8_house_2
def TX8_house_0 : List UInt8 := 42 :: TX8_house_1
theorem DX8_house_0 : cX8_house.data.toList.drop 0 = TX8_house_0 := by decide +kernel
theorem DX8_house_1 : cX8_house.data.toList.drop 1 = TX8_house_1 := dr1 DX8_house_0
theorem DX8_house_2 : cX8_house.data.toList.drop 2 = TX8_house_2 := dr1 DX8_house_1
theorem DX8_house_3 : cX8_house.data.toList.drop 3 = TX8_house_3 := dr1 DX8_house_2
theorem DX8_house_4 : cX8_house.data.toList.drop 4 = TX8_house_4 := dr1 DX8_house_3
theorem DX8_house_7 : cX8_house.data.toList.drop 7 = TX8_house_7 := dr3 DX8_house_4
theorem DX8_house_10 : cX8_house.data.toList.drop 10 = TX8_house_10 := dr3 DX8_house_7
theorem DX8_house_11 : cX8_house.data.toList.drop 11 = TX8_house_11 := dr1 DX8_house_10
theorem DX8_house_14 : cX8_house.data.toList.drop 14 = TX8_house_14 := dr3 DX8_house_11
theorem DX8_house_15 : cX8_house.data.toList.drop 15 = TX8_house_15 := dr1 DX8_house_14
theorem DX8_house_16 : cX8_house.data.toList.drop 16 = TX8_house_16 := dr1 DX8_house_15
theorem DX8_house_19 : cX8_house.data.toList.drop 19 = TX8_house_19 := dr3 DX8_house_16
theorem DX8_house_22 : cX8_house.data.toList.drop 22 = TX8_house_22 := dr3 DX8_house_19
theorem DX8_house_23 : cX8_house.data.toList.drop 23 = TX8_house_23 := dr1 DX8_house_22
theorem DX8_house_26 : cX8_house.data.toList.drop 26 = TX8_house_26 := dr3 DX8_house_23
theorem DX8_house_27 : cX8_house.data.toList.drop 27 = TX8_house_27 := dr1 DX8_house_26
theorem DX8_house_30 : cX8_house.data.toList.drop 30 = TX8_house_30 := dr3 DX8_house_27
theorem DX8_house_31 : cX8_house.data.toList.drop 31 = TX8_house_31 := dr1 DX8_house_30
theorem DX8_house_32 : cX8_house.data.toList.drop 32 = TX8_house_32 := dr1 DX8_house_31
theorem dX8_house_0 : decode cX8_house 0 = .ok (.aload_n 0, 1) := do_2a DX8_house_0
theorem dX8_house_1 : decode cX8_house 1 = .ok (.iload_n 1, 1) := do_1b DX8_house_1
theorem dX8_house_2 : decode cX8_house 2 = .ok (.iconst 0, 1) := do_03 DX8_house_2
theorem dX8_house_3 : decode cX8_house 3 = .ok (.iconst 4, 1) := do_07 DX8_house_3
theorem dX8_house_4 : decode cX8_house 4 = .ok (.invokestatic 49, 3) := do_b8 DX8_house_4
theorem dX8_house_7 : decode cX8_house 7 = .ok (.ifCond .ne 7, 3) := do_9a DX8_house_7 (by decide +kernel)
theorem dX8_house_10 : decode cX8_house 10 = .ok (.iconst 1, 1) := do_04 DX8_house_10
theorem dX8_house_11 : decode cX8_house 11 = .ok (.goto 4, 3) := do_a7 DX8_house_11 (by decide +kernel)
theorem dX8_house_14 : decode cX8_house 14 = .ok (.iconst 0, 1) := do_03 DX8_house_14
theorem dX8_house_15 : decode cX8_house 15 = .ok (.iconst 1, 1) := do_04 DX8_house_15
theorem dX8_house_16 : decode cX8_house 16 = .ok (.invokevirtual 149, 3) := do_b6 DX8_house_16
theorem dX8_house_19 : decode cX8_house 19 = .ok (.ifCond .eq 7, 3) := do_99 DX8_house_19 (by decide +kernel)
theorem dX8_house_22 : decode cX8_house 22 = .ok (.iconst 0, 1) := do_03 DX8_house_22
theorem dX8_house_23 : decode cX8_house 23 = .ok (.goto 9, 3) := do_a7 DX8_house_23 (by decide +kernel)
theorem dX8_house_26 : decode cX8_house 26 = .ok (.aload_n 0, 1) := do_2a DX8_house_26
theorem dX8_house_27 : decode cX8_house 27 = .ok (.getfield 38, 3) := do_b4 DX8_house_27
theorem dX8_house_30 : decode cX8_house 30 = .ok (.iload_n 1, 1) := do_1b DX8_house_30
theorem dX8_house_31 : decode cX8_house 31 = .ok (.iaload, 1) := do_2e DX8_house_31
theorem dX8_house_32 : decode cX8_house 32 = .ok (.ireturn, 1) := do_ac DX8_house_32
def TX8_knock_22 : List UInt8 := []
def TX8_knock_21 : List UInt8 := 172 :: TX8_knock_22
def TX8_knock_20 : List UInt8 := 46 :: TX8_knock_21
def TX8_knock_19 : List UInt8 := 7 :: TX8_knock_20
def TX8_knock_16 : List UInt8 := 180 :: 0 :: 38 :: TX8_knock_19
def TX8_knock_15 : List UInt8 := 42 :: TX8_knock_16
def TX8_knock_14 : List UInt8 := 79 :: TX8_knock_15
def TX8_knock_13 : List UInt8 := 96 :: TX8_knock_14
def TX8_knock_12 : List UInt8 := 4 :: TX8_knock_13
def TX8_knock_11 : List UInt8 := 46 :: TX8_knock_12
def TX8_knock_10 : List UInt8 := 92 :: TX8_knock_11
def TX8_knock_9 : List UInt8 := 7 :: TX8_knock_10
def TX8_knock_6 : List UInt8 := 180 :: 0 :: 38 :: TX8_knock_9
def TX8_knock_5 : List UInt8 := 42 :: TX8_knock_6
def TX8_knock_2 : List UInt8 := 181 :: 0 :: 41 :: TX8_knock_5
def TX8_knock_1 : List UInt8 := 3 :: TX8_knock_2
def TX8_knock_0 : List UInt8 := 42 :: TX8_knock_1
theorem DX8_knock_0 : cX8_knock.data.toList.drop 0 = TX8_knock_0 := by decide +kernel
theorem DX8_knock_1 : cX8_knock.data.toList.drop 1 = TX8_knock_1 := dr1 DX8_knock_0
theorem DX8_knock_2 : cX8_knock.data.toList.drop 2 = TX8_knock_2 := dr1 DX8_knock_1
theorem DX8_knock_5 : cX8_knock.data.toList.drop 5 = TX8_knock_5 := dr3 DX8_knock_2
theorem DX8_knock_6 : cX8_knock.data.toList.drop 6 = TX8_knock_6 := dr1 DX8_knock_5
theorem DX8_knock_9 : cX8_knock.data.toList.drop 9 = TX8_knock_9 := dr3 DX8_knock_6
theorem DX8_knock_10 : cX8_knock.data.toList.drop 10 = TX8_knock_10 := dr1 DX8_knock_9
theorem DX8_knock_11 : cX8_knock.data.toList.drop 11 = TX8_knock_11 := dr1 DX8_knock_10
theorem DX8_knock_12 : cX8_knock.data.toList.drop 12 = TX8_knock_12 := dr1 DX8_knock_11
theorem DX8_knock_13 : cX8_knock.data.toList.drop 13 = TX8_knock_13 := dr1 DX8_knock_12
theorem DX8_knock_14 : cX8_knock.data.toList.drop 14 = TX8_knock_14 := dr1 DX8_knock_13
theorem DX8_knock_15 : cX8_knock.data.toList.drop 15 = TX8_knock_15 := dr1 DX8_knock_14
theorem DX8_knock_16 : cX8_knock.data.toList.drop 16 = TX8_knock_16 := dr1 DX8_knock_15
theorem DX8_knock_19 : cX8_knock.data.toList.drop 19 = TX8_knock_19 := dr3 DX8_knock_16
theorem DX8_knock_20 : cX8_knock.data.toList.drop 20 = TX8_knock_20 := dr1 DX8_knock_19
theorem DX8_knock_21 : cX8_knock.data.toList.drop 21 = TX8_knock_21 := dr1 DX8_knock_20
theorem dX8_knock_0 : decode cX8_knock 0 = .ok (.aload_n 0, 1) := do_2a DX8_knock_0
theorem dX8_knock_1 : decode cX8_knock 1 = .ok (.iconst 0, 1) := do_03 DX8_knock_1
theorem dX8_knock_2 : decode cX8_knock 2 = .ok (.putfield 41, 3) := do_b5 DX8_knock_2
theorem dX8_knock_5 : decode cX8_knock 5 = .ok (.aload_n 0, 1) := do_2a DX8_knock_5
theorem dX8_knock_6 : decode cX8_knock 6 = .ok (.getfield 38, 3) := do_b4 DX8_knock_6
theorem dX8_knock_9 : decode cX8_knock 9 = .ok (.iconst 4, 1) := do_07 DX8_knock_9
theorem dX8_knock_10 : decode cX8_knock 10 = .ok (.dup2, 1) := do_5c DX8_knock_10
theorem dX8_knock_11 : decode cX8_knock 11 = .ok (.iaload, 1) := do_2e DX8_knock_11
theorem dX8_knock_12 : decode cX8_knock 12 = .ok (.iconst 1, 1) := do_04 DX8_knock_12
theorem dX8_knock_13 : decode cX8_knock 13 = .ok (.iadd, 1) := do_60 DX8_knock_13
theorem dX8_knock_14 : decode cX8_knock 14 = .ok (.iastore, 1) := do_4f DX8_knock_14
theorem dX8_knock_15 : decode cX8_knock 15 = .ok (.aload_n 0, 1) := do_2a DX8_knock_15
theorem dX8_knock_16 : decode cX8_knock 16 = .ok (.getfield 38, 3) := do_b4 DX8_knock_16
theorem dX8_knock_19 : decode cX8_knock 19 = .ok (.iconst 4, 1) := do_07 DX8_knock_19
theorem dX8_knock_20 : decode cX8_knock 20 = .ok (.iaload, 1) := do_2e DX8_knock_20
theorem dX8_knock_21 : decode cX8_knock 21 = .ok (.ireturn, 1) := do_ac DX8_knock_21
def TX8_isWalkSound_160 : List UInt8 := []
def TX8_isWalkSound_159 : List UInt8 := 172 :: TX8_isWalkSound_160
def TX8_isWalkSound_158 : List UInt8 := 3 :: TX8_isWalkSound_159
def TX8_isWalkSound_155 : List UInt8 := 167 :: 0 :: 4 :: TX8_isWalkSound_158
def TX8_isWalkSound_154 : List UInt8 := 4 :: TX8_isWalkSound_155
def TX8_isWalkSound_151 : List UInt8 := 154 :: 0 :: 7 :: TX8_isWalkSound_154
def TX8_isWalkSound_148 : List UInt8 := 184 :: 0 :: 199 :: TX8_isWalkSound_151
def TX8_isWalkSound_145 : List UInt8 := 184 :: 0 :: 20 :: TX8_isWalkSound_148
def TX8_isWalkSound_144 : List UInt8 := 133 :: TX8_isWalkSound_145
def TX8_isWalkSound_143 : List UInt8 := 116 :: TX8_isWalkSound_144
def TX8_isWalkSound_141 : List UInt8 := 21 :: 6 :: TX8_isWalkSound_143
def TX8_isWalkSound_138 : List UInt8 := 167 :: 0 :: 7 :: TX8_isWalkSound_141
def TX8_isWalkSound_137 : List UInt8 := 133 :: TX8_isWalkSound_138
def TX8_isWalkSound_135 : List UInt8 := 21 :: 6 :: TX8_isWalkSound_137
def TX8_isWalkSound_132 : List UInt8 := 160 :: 0 :: 9 :: TX8_isWalkSound_135
def TX8_isWalkSound_131 : List UInt8 := 4 :: TX8_isWalkSound_132
def TX8_isWalkSound_130 : List UInt8 := 112 :: TX8_isWalkSound_131
def TX8_isWalkSound_129 : List UInt8 := 5 :: TX8_isWalkSound_130
def TX8_isWalkSound_128 : List UInt8 := 29 :: TX8_isWalkSound_129
def TX8_isWalkSound_125 : List UInt8 := 184 :: 0 :: 188 :: TX8_isWalkSound_128
def TX8_isWalkSound_124 : List UInt8 := 50 :: TX8_isWalkSound_125
def TX8_isWalkSound_123 : List UInt8 := 4 :: TX8_isWalkSound_124
def TX8_isWalkSound_121 : List UInt8 := 25 :: 5 :: TX8_isWalkSound_123
def TX8_isWalkSound_120 : List UInt8 := 50 :: TX8_isWalkSound_121
def TX8_isWalkSound_119 : List UInt8 := 3 :: TX8_isWalkSound_120
def TX8_isWalkSound_117 : List UInt8 := 25 :: 5 :: TX8_isWalkSound_119
def TX8_isWalkSound_116 : List UInt8 := 28 :: TX8_isWalkSound_117
def TX8_isWalkSound_113 : List UInt8 := 160 :: 0 :: 45 :: TX8_isWalkSound_116
def TX8_isWalkSound_112 : List UInt8 := 2 :: TX8_isWalkSound_113
def TX8_isWalkSound_109 : List UInt8 := 167 :: 0 :: 4 :: TX8_isWalkSound_112
def TX8_isWalkSound_108 : List UInt8 := 4 :: TX8_isWalkSound_109
def TX8_isWalkSound_105 : List UInt8 := 160 :: 0 :: 7 :: TX8_isWalkSound_108
def TX8_isWalkSound_104 : List UInt8 := 4 :: TX8_isWalkSound_105
def TX8_isWalkSound_103 : List UInt8 := 112 :: TX8_isWalkSound_104
def TX8_isWalkSound_102 : List UInt8 := 5 :: TX8_isWalkSound_103
def TX8_isWalkSound_101 : List UInt8 := 29 :: TX8_isWalkSound_102
def TX8_isWalkSound_98 : List UInt8 := 184 :: 0 :: 192 :: TX8_isWalkSound_101
def TX8_isWalkSound_97 : List UInt8 := 4 :: TX8_isWalkSound_98
def TX8_isWalkSound_95 : List UInt8 := 25 :: 5 :: TX8_isWalkSound_97
def TX8_isWalkSound_94 : List UInt8 := 28 :: TX8_isWalkSound_95
def TX8_isWalkSound_91 : List UInt8 := 153 :: 0 :: 67 :: TX8_isWalkSound_94
def TX8_isWalkSound_89 : List UInt8 := 21 :: 7 :: TX8_isWalkSound_91
def TX8_isWalkSound_87 : List UInt8 := 54 :: 7 :: TX8_isWalkSound_89
def TX8_isWalkSound_86 : List UInt8 := 3 :: TX8_isWalkSound_87
def TX8_isWalkSound_83 : List UInt8 := 167 :: 0 :: 4 :: TX8_isWalkSound_86
def TX8_isWalkSound_82 : List UInt8 := 4 :: TX8_isWalkSound_83
def TX8_isWalkSound_79 : List UInt8 := 160 :: 0 :: 7 :: TX8_isWalkSound_82
def TX8_isWalkSound_78 : List UInt8 := 4 :: TX8_isWalkSound_79
def TX8_isWalkSound_75 : List UInt8 := 184 :: 0 :: 192 :: TX8_isWalkSound_78
def TX8_isWalkSound_74 : List UInt8 := 3 :: TX8_isWalkSound_75
def TX8_isWalkSound_72 : List UInt8 := 25 :: 5 :: TX8_isWalkSound_74
def TX8_isWalkSound_71 : List UInt8 := 28 :: TX8_isWalkSound_72
def TX8_isWalkSound_68 : List UInt8 := 153 :: 0 :: 18 :: TX8_isWalkSound_71
def TX8_isWalkSound_65 : List UInt8 := 184 :: 0 :: 49 :: TX8_isWalkSound_68
def TX8_isWalkSound_64 : List UInt8 := 104 :: TX8_isWalkSound_65
def TX8_isWalkSound_61 : List UInt8 := 184 :: 0 :: 130 :: TX8_isWalkSound_64
def TX8_isWalkSound_60 : List UInt8 := 28 :: TX8_isWalkSound_61
def TX8_isWalkSound_59 : List UInt8 := 5 :: TX8_isWalkSound_60
def TX8_isWalkSound_58 : List UInt8 := 4 :: TX8_isWalkSound_59
def TX8_isWalkSound_57 : List UInt8 := 46 :: TX8_isWalkSound_58
def TX8_isWalkSound_56 : List UInt8 := 4 :: TX8_isWalkSound_57
def TX8_isWalkSound_54 : List UInt8 := 25 :: 4 :: TX8_isWalkSound_56
def TX8_isWalkSound_51 : List UInt8 := 153 :: 0 :: 35 :: TX8_isWalkSound_54
def TX8_isWalkSound_48 : List UInt8 := 184 :: 0 :: 49 :: TX8_isWalkSound_51
def TX8_isWalkSound_45 : List UInt8 := 184 :: 0 :: 130 :: TX8_isWalkSound_48
def TX8_isWalkSound_44 : List UInt8 := 28 :: TX8_isWalkSound_45
def TX8_isWalkSound_43 : List UInt8 := 3 :: TX8_isWalkSound_44
def TX8_isWalkSound_42 : List UInt8 := 46 :: TX8_isWalkSound_43
def TX8_isWalkSound_41 : List UInt8 := 3 :: TX8_isWalkSound_42
def TX8_isWalkSound_39 : List UInt8 := 25 :: 4 :: TX8_isWalkSound_41
def TX8_isWalkSound_37 : List UInt8 := 54 :: 6 :: TX8_isWalkSound_39
def TX8_isWalkSound_36 : List UInt8 := 46 :: TX8_isWalkSound_37
def TX8_isWalkSound_35 : List UInt8 := 4 :: TX8_isWalkSound_36
def TX8_isWalkSound_32 : List UInt8 := 184 :: 0 :: 138 :: TX8_isWalkSound_35
def TX8_isWalkSound_31 : List UInt8 := 96 :: TX8_isWalkSound_32
def TX8_isWalkSound_30 : List UInt8 := 4 :: TX8_isWalkSound_31
def TX8_isWalkSound_29 : List UInt8 := 29 :: TX8_isWalkSound_30
def TX8_isWalkSound_28 : List UInt8 := 28 :: TX8_isWalkSound_29
def TX8_isWalkSound_26 : List UInt8 := 58 :: 5 :: TX8_isWalkSound_28
def TX8_isWalkSound_23 : List UInt8 := 182 :: 0 :: 167 :: TX8_isWalkSound_26
def TX8_isWalkSound_22 : List UInt8 := 27 :: TX8_isWalkSound_23
def TX8_isWalkSound_21 : List UInt8 := 42 :: TX8_isWalkSound_22
def TX8_isWalkSound_19 : List UInt8 := 58 :: 4 :: TX8_isWalkSound_21
def TX8_isWalkSound_16 : List UInt8 := 184 :: 0 :: 138 :: TX8_isWalkSound_19
def TX8_isWalkSound_15 : List UInt8 := 29 :: TX8_isWalkSound_16
def TX8_isWalkSound_14 : List UInt8 := 28 :: TX8_isWalkSound_15
def TX8_isWalkSound_13 : List UInt8 := 62 :: TX8_isWalkSound_14
def TX8_isWalkSound_12 : List UInt8 := 46 :: TX8_isWalkSound_13
def TX8_isWalkSound_11 : List UInt8 := 27 :: TX8_isWalkSound_12
def TX8_isWalkSound_8 : List UInt8 := 180 :: 0 :: 13 :: TX8_isWalkSound_11
def TX8_isWalkSound_7 : List UInt8 := 42 :: TX8_isWalkSound_8
def TX8_isWalkSound_6 : List UInt8 := 61 :: TX8_isWalkSound_7
def TX8_isWalkSound_5 : List UInt8 := 46 :: TX8_isWalkSound_6
def TX8_isWalkSound_4 : List UInt8 := 27 :: TX8_isWalkSound_5
def TX8_isWalkSound_1 : List UInt8 := 180 :: 0 :: 9 :: TX8_isWalkSound_4
def TX8_isWalkSound_0 : List UInt8 := 42 :: TX8_isWalkSound_1
theorem DX8_isWalkSound_0 : cX8_isWalkSound.data.toList.drop 0 = TX8_isWalkSound_0 := by decide +kernel
theorem DX8_isWalkSound_1 : cX8_isWalkSound.data.toList.drop 1 = TX8_isWalkSound_1 := dr1 DX8_isWalkSound_0
theorem DX8_isWalkSound_4 : cX8_isWalkSound.data.toList.drop 4 = TX8_isWalkSound_4 := dr3 DX8_isWalkSound_1
theorem DX8_isWalkSound_5 : cX8_isWalkSound.data.toList.drop 5 = TX8_isWalkSound_5 := dr1 DX8_isWalkSound_4
theorem DX8_isWalkSound_6 : cX8_isWalkSound.data.toList.drop 6 = TX8_isWalkSound_6 := dr1 DX8_isWalkSound_5
theorem DX8_isWalkSound_7 : cX8_isWalkSound.data.toList.drop 7 = TX8_isWalkSound_7 := dr1 DX8_isWalkSound_6
theorem DX8_isWalkSound_8 : cX8_isWalkSound.data.toList.drop 8 = TX8_isWalkSound_8 := dr1 DX8_isWalkSound_7
theorem DX8_isWalkSound_11 : cX8_isWalkSound.data.toList.drop 11 = TX8_isWalkSound_11 := dr3 DX8_isWalkSound_8
theorem DX8_isWalkSound_12 : cX8_isWalkSound.data.toList.drop 12 = TX8_isWalkSound_12 := dr1 DX8_isWalkSound_11
theorem DX8_isWalkSound_13 : cX8_isWalkSound.data.toList.drop 13 = TX8_isWalkSound_13 := dr1 DX8_isWalkSound_12
theorem DX8_isWalkSound_14 : cX8_isWalkSound.data.toList.drop 14 = TX8_isWalkSound_14 := dr1 DX8_isWalkSound_13
theorem DX8_isWalkSound_15 : cX8_isWalkSound.data.toList.drop 15 = TX8_isWalkSound_15 := dr1 DX8_isWalkSound_14
theorem DX8_isWalkSound_16 : cX8_isWalkSound.data.toList.drop 16 = TX8_isWalkSound_16 := dr1 DX8_isWalkSound_15
theorem DX8_isWalkSound_19 : cX8_isWalkSound.data.toList.drop 19 = TX8_isWalkSound_19 := dr3 DX8_isWalkSound_16
theorem DX8_isWalkSound_21 : cX8_isWalkSound.data.toList.drop 21 = TX8_isWalkSound_21 := dr2 DX8_isWalkSound_19
theorem DX8_isWalkSound_22 : cX8_isWalkSound.data.toList.drop 22 = TX8_isWalkSound_22 := dr1 DX8_isWalkSound_21
theorem DX8_isWalkSound_23 : cX8_isWalkSound.data.toList.drop 23 = TX8_isWalkSound_23 := dr1 DX8_isWalkSound_22
theorem DX8_isWalkSound_26 : cX8_isWalkSound.data.toList.drop 26 = TX8_isWalkSound_26 := dr3 DX8_isWalkSound_23
theorem DX8_isWalkSound_28 : cX8_isWalkSound.data.toList.drop 28 = TX8_isWalkSound_28 := dr2 DX8_isWalkSound_26
theorem DX8_isWalkSound_29 : cX8_isWalkSound.data.toList.drop 29 = TX8_isWalkSound_29 := dr1 DX8_isWalkSound_28
theorem DX8_isWalkSound_30 : cX8_isWalkSound.data.toList.drop 30 = TX8_isWalkSound_30 := dr1 DX8_isWalkSound_29
theorem DX8_isWalkSound_31 : cX8_isWalkSound.data.toList.drop 31 = TX8_isWalkSound_31 := dr1 DX8_isWalkSound_30
theorem DX8_isWalkSound_32 : cX8_isWalkSound.data.toList.drop 32 = TX8_isWalkSound_32 := dr1 DX8_isWalkSound_31
theorem DX8_isWalkSound_35 : cX8_isWalkSound.data.toList.drop 35 = TX8_isWalkSound_35 := dr3 DX8_isWalkSound_32
theorem DX8_isWalkSound_36 : cX8_isWalkSound.data.toList.drop 36 = TX8_isWalkSound_36 := dr1 DX8_isWalkSound_35
theorem DX8_isWalkSound_37 : cX8_isWalkSound.data.toList.drop 37 = TX8_isWalkSound_37 := dr1 DX8_isWalkSound_36
theorem DX8_isWalkSound_39 : cX8_isWalkSound.data.toList.drop 39 = TX8_isWalkSound_39 := dr2 DX8_isWalkSound_37
theorem DX8_isWalkSound_41 : cX8_isWalkSound.data.toList.drop 41 = TX8_isWalkSound_41 := dr2 DX8_isWalkSound_39
theorem DX8_isWalkSound_42 : cX8_isWalkSound.data.toList.drop 42 = TX8_isWalkSound_42 := dr1 DX8_isWalkSound_41
theorem DX8_isWalkSound_43 : cX8_isWalkSound.data.toList.drop 43 = TX8_isWalkSound_43 := dr1 DX8_isWalkSound_42
theorem DX8_isWalkSound_44 : cX8_isWalkSound.data.toList.drop 44 = TX8_isWalkSound_44 := dr1 DX8_isWalkSound_43
theorem DX8_isWalkSound_45 : cX8_isWalkSound.data.toList.drop 45 = TX8_isWalkSound_45 := dr1 DX8_isWalkSound_44
theorem DX8_isWalkSound_48 : cX8_isWalkSound.data.toList.drop 48 = TX8_isWalkSound_48 := dr3 DX8_isWalkSound_45
theorem DX8_isWalkSound_51 : cX8_isWalkSound.data.toList.drop 51 = TX8_isWalkSound_51 := dr3 DX8_isWalkSound_48
theorem DX8_isWalkSound_54 : cX8_isWalkSound.data.toList.drop 54 = TX8_isWalkSound_54 := dr3 DX8_isWalkSound_51
theorem DX8_isWalkSound_56 : cX8_isWalkSound.data.toList.drop 56 = TX8_isWalkSound_56 := dr2 DX8_isWalkSound_54
theorem DX8_isWalkSound_57 : cX8_isWalkSound.data.toList.drop 57 = TX8_isWalkSound_57 := dr1 DX8_isWalkSound_56
theorem DX8_isWalkSound_58 : cX8_isWalkSound.data.toList.drop 58 = TX8_isWalkSound_58 := dr1 DX8_isWalkSound_57
theorem DX8_isWalkSound_59 : cX8_isWalkSound.data.toList.drop 59 = TX8_isWalkSound_59 := dr1 DX8_isWalkSound_58
theorem DX8_isWalkSound_60 : cX8_isWalkSound.data.toList.drop 60 = TX8_isWalkSound_60 := dr1 DX8_isWalkSound_59
theorem DX8_isWalkSound_61 : cX8_isWalkSound.data.toList.drop 61 = TX8_isWalkSound_61 := dr1 DX8_isWalkSound_60
theorem DX8_isWalkSound_64 : cX8_isWalkSound.data.toList.drop 64 = TX8_isWalkSound_64 := dr3 DX8_isWalkSound_61
theorem DX8_isWalkSound_65 : cX8_isWalkSound.data.toList.drop 65 = TX8_isWalkSound_65 := dr1 DX8_isWalkSound_64
theorem DX8_isWalkSound_68 : cX8_isWalkSound.data.toList.drop 68 = TX8_isWalkSound_68 := dr3 DX8_isWalkSound_65
theorem DX8_isWalkSound_71 : cX8_isWalkSound.data.toList.drop 71 = TX8_isWalkSound_71 := dr3 DX8_isWalkSound_68
theorem DX8_isWalkSound_72 : cX8_isWalkSound.data.toList.drop 72 = TX8_isWalkSound_72 := dr1 DX8_isWalkSound_71
theorem DX8_isWalkSound_74 : cX8_isWalkSound.data.toList.drop 74 = TX8_isWalkSound_74 := dr2 DX8_isWalkSound_72
theorem DX8_isWalkSound_75 : cX8_isWalkSound.data.toList.drop 75 = TX8_isWalkSound_75 := dr1 DX8_isWalkSound_74
theorem DX8_isWalkSound_78 : cX8_isWalkSound.data.toList.drop 78 = TX8_isWalkSound_78 := dr3 DX8_isWalkSound_75
theorem DX8_isWalkSound_79 : cX8_isWalkSound.data.toList.drop 79 = TX8_isWalkSound_79 := dr1 DX8_isWalkSound_78
theorem DX8_isWalkSound_82 : cX8_isWalkSound.data.toList.drop 82 = TX8_isWalkSound_82 := dr3 DX8_isWalkSound_79
theorem DX8_isWalkSound_83 : cX8_isWalkSound.data.toList.drop 83 = TX8_isWalkSound_83 := dr1 DX8_isWalkSound_82
theorem DX8_isWalkSound_86 : cX8_isWalkSound.data.toList.drop 86 = TX8_isWalkSound_86 := dr3 DX8_isWalkSound_83
theorem DX8_isWalkSound_87 : cX8_isWalkSound.data.toList.drop 87 = TX8_isWalkSound_87 := dr1 DX8_isWalkSound_86
theorem DX8_isWalkSound_89 : cX8_isWalkSound.data.toList.drop 89 = TX8_isWalkSound_89 := dr2 DX8_isWalkSound_87
theorem DX8_isWalkSound_91 : cX8_isWalkSound.data.toList.drop 91 = TX8_isWalkSound_91 := dr2 DX8_isWalkSound_89
theorem DX8_isWalkSound_94 : cX8_isWalkSound.data.toList.drop 94 = TX8_isWalkSound_94 := dr3 DX8_isWalkSound_91
theorem DX8_isWalkSound_95 : cX8_isWalkSound.data.toList.drop 95 = TX8_isWalkSound_95 := dr1 DX8_isWalkSound_94
theorem DX8_isWalkSound_97 : cX8_isWalkSound.data.toList.drop 97 = TX8_isWalkSound_97 := dr2 DX8_isWalkSound_95
theorem DX8_isWalkSound_98 : cX8_isWalkSound.data.toList.drop 98 = TX8_isWalkSound_98 := dr1 DX8_isWalkSound_97
theorem DX8_isWalkSound_101 : cX8_isWalkSound.data.toList.drop 101 = TX8_isWalkSound_101 := dr3 DX8_isWalkSound_98
theorem DX8_isWalkSound_102 : cX8_isWalkSound.data.toList.drop 102 = TX8_isWalkSound_102 := dr1 DX8_isWalkSound_101
theorem DX8_isWalkSound_103 : cX8_isWalkSound.data.toList.drop 103 = TX8_isWalkSound_103 := dr1 DX8_isWalkSound_102
theorem DX8_isWalkSound_104 : cX8_isWalkSound.data.toList.drop 104 = TX8_isWalkSound_104 := dr1 DX8_isWalkSound_103
theorem DX8_isWalkSound_105 : cX8_isWalkSound.data.toList.drop 105 = TX8_isWalkSound_105 := dr1 DX8_isWalkSound_104
theorem DX8_isWalkSound_108 : cX8_isWalkSound.data.toList.drop 108 = TX8_isWalkSound_108 := dr3 DX8_isWalkSound_105
theorem DX8_isWalkSound_109 : cX8_isWalkSound.data.toList.drop 109 = TX8_isWalkSound_109 := dr1 DX8_isWalkSound_108
theorem DX8_isWalkSound_112 : cX8_isWalkSound.data.toList.drop 112 = TX8_isWalkSound_112 := dr3 DX8_isWalkSound_109
theorem DX8_isWalkSound_113 : cX8_isWalkSound.data.toList.drop 113 = TX8_isWalkSound_113 := dr1 DX8_isWalkSound_112
theorem DX8_isWalkSound_116 : cX8_isWalkSound.data.toList.drop 116 = TX8_isWalkSound_116 := dr3 DX8_isWalkSound_113
theorem DX8_isWalkSound_117 : cX8_isWalkSound.data.toList.drop 117 = TX8_isWalkSound_117 := dr1 DX8_isWalkSound_116
theorem DX8_isWalkSound_119 : cX8_isWalkSound.data.toList.drop 119 = TX8_isWalkSound_119 := dr2 DX8_isWalkSound_117
theorem DX8_isWalkSound_120 : cX8_isWalkSound.data.toList.drop 120 = TX8_isWalkSound_120 := dr1 DX8_isWalkSound_119
theorem DX8_isWalkSound_121 : cX8_isWalkSound.data.toList.drop 121 = TX8_isWalkSound_121 := dr1 DX8_isWalkSound_120
theorem DX8_isWalkSound_123 : cX8_isWalkSound.data.toList.drop 123 = TX8_isWalkSound_123 := dr2 DX8_isWalkSound_121
theorem DX8_isWalkSound_124 : cX8_isWalkSound.data.toList.drop 124 = TX8_isWalkSound_124 := dr1 DX8_isWalkSound_123
theorem DX8_isWalkSound_125 : cX8_isWalkSound.data.toList.drop 125 = TX8_isWalkSound_125 := dr1 DX8_isWalkSound_124
theorem DX8_isWalkSound_128 : cX8_isWalkSound.data.toList.drop 128 = TX8_isWalkSound_128 := dr3 DX8_isWalkSound_125
theorem DX8_isWalkSound_129 : cX8_isWalkSound.data.toList.drop 129 = TX8_isWalkSound_129 := dr1 DX8_isWalkSound_128
theorem DX8_isWalkSound_130 : cX8_isWalkSound.data.toList.drop 130 = TX8_isWalkSound_130 := dr1 DX8_isWalkSound_129
theorem DX8_isWalkSound_131 : cX8_isWalkSound.data.toList.drop 131 = TX8_isWalkSound_131 := dr1 DX8_isWalkSound_130
theorem DX8_isWalkSound_132 : cX8_isWalkSound.data.toList.drop 132 = TX8_isWalkSound_132 := dr1 DX8_isWalkSound_131
theorem DX8_isWalkSound_135 : cX8_isWalkSound.data.toList.drop 135 = TX8_isWalkSound_135 := dr3 DX8_isWalkSound_132
theorem DX8_isWalkSound_137 : cX8_isWalkSound.data.toList.drop 137 = TX8_isWalkSound_137 := dr2 DX8_isWalkSound_135
theorem DX8_isWalkSound_138 : cX8_isWalkSound.data.toList.drop 138 = TX8_isWalkSound_138 := dr1 DX8_isWalkSound_137
theorem DX8_isWalkSound_141 : cX8_isWalkSound.data.toList.drop 141 = TX8_isWalkSound_141 := dr3 DX8_isWalkSound_138
theorem DX8_isWalkSound_143 : cX8_isWalkSound.data.toList.drop 143 = TX8_isWalkSound_143 := dr2 DX8_isWalkSound_141
theorem DX8_isWalkSound_144 : cX8_isWalkSound.data.toList.drop 144 = TX8_isWalkSound_144 := dr1 DX8_isWalkSound_143
theorem DX8_isWalkSound_145 : cX8_isWalkSound.data.toList.drop 145 = TX8_isWalkSound_145 := dr1 DX8_isWalkSound_144
theorem DX8_isWalkSound_148 : cX8_isWalkSound.data.toList.drop 148 = TX8_isWalkSound_148 := dr3 DX8_isWalkSound_145
theorem DX8_isWalkSound_151 : cX8_isWalkSound.data.toList.drop 151 = TX8_isWalkSound_151 := dr3 DX8_isWalkSound_148
theorem DX8_isWalkSound_154 : cX8_isWalkSound.data.toList.drop 154 = TX8_isWalkSound_154 := dr3 DX8_isWalkSound_151
theorem DX8_isWalkSound_155 : cX8_isWalkSound.data.toList.drop 155 = TX8_isWalkSound_155 := dr1 DX8_isWalkSound_154
theorem DX8_isWalkSound_158 : cX8_isWalkSound.data.toList.drop 158 = TX8_isWalkSound_158 := dr3 DX8_isWalkSound_155
theorem DX8_isWalkSound_159 : cX8_isWalkSound.data.toList.drop 159 = TX8_isWalkSound_159 := dr1 DX8_isWalkSound_158
theorem dX8_isWalkSound_0 : decode cX8_isWalkSound 0 = .ok (.aload_n 0, 1) := do_2a DX8_isWalkSound_0
theorem dX8_isWalkSound_1 : decode cX8_isWalkSound 1 = .ok (.getfield 9, 3) := do_b4 DX8_isWalkSound_1
theorem dX8_isWalkSound_4 : decode cX8_isWalkSound 4 = .ok (.iload_n 1, 1) := do_1b DX8_isWalkSound_4
theorem dX8_isWalkSound_5 : decode cX8_isWalkSound 5 = .ok (.iaload, 1) := do_2e DX8_isWalkSound_5
theorem dX8_isWalkSound_6 : decode cX8_isWalkSound 6 = .ok (.istore_n 2, 1) := do_3d DX8_isWalkSound_6
theorem dX8_isWalkSound_7 : decode cX8_isWalkSound 7 = .ok (.aload_n 0, 1) := do_2a DX8_isWalkSound_7
theorem dX8_isWalkSound_8 : decode cX8_isWalkSound 8 = .ok (.getfield 13, 3) := do_b4 DX8_isWalkSound_8
theorem dX8_isWalkSound_11 : decode cX8_isWalkSound 11 = .ok (.iload_n 1, 1) := do_1b DX8_isWalkSound_11
theorem dX8_isWalkSound_12 : decode cX8_isWalkSound 12 = .ok (.iaload, 1) := do_2e DX8_isWalkSound_12
theorem dX8_isWalkSound_13 : decode cX8_isWalkSound 13 = .ok (.istore_n 3, 1) := do_3e DX8_isWalkSound_13
theorem dX8_isWalkSound_14 : decode cX8_isWalkSound 14 = .ok (.iload_n 2, 1) := do_1c DX8_isWalkSound_14
theorem dX8_isWalkSound_15 : decode cX8_isWalkSound 15 = .ok (.iload_n 3, 1) := do_1d DX8_isWalkSound_15
theorem dX8_isWalkSound_16 : decode cX8_isWalkSound 16 = .ok (.invokestatic 138, 3) := do_b8 DX8_isWalkSound_16
theorem dX8_isWalkSound_19 : decode cX8_isWalkSound 19 = .ok (.astore 4, 2) := do_3a DX8_isWalkSound_19
theorem dX8_isWalkSound_21 : decode cX8_isWalkSound 21 = .ok (.aload_n 0, 1) := do_2a DX8_isWalkSound_21
theorem dX8_isWalkSound_22 : decode cX8_isWalkSound 22 = .ok (.iload_n 1, 1) := do_1b DX8_isWalkSound_22
theorem dX8_isWalkSound_23 : decode cX8_isWalkSound 23 = .ok (.invokevirtual 167, 3) := do_b6 DX8_isWalkSound_23
theorem dX8_isWalkSound_26 : decode cX8_isWalkSound 26 = .ok (.astore 5, 2) := do_3a DX8_isWalkSound_26
theorem dX8_isWalkSound_28 : decode cX8_isWalkSound 28 = .ok (.iload_n 2, 1) := do_1c DX8_isWalkSound_28
theorem dX8_isWalkSound_29 : decode cX8_isWalkSound 29 = .ok (.iload_n 3, 1) := do_1d DX8_isWalkSound_29
theorem dX8_isWalkSound_30 : decode cX8_isWalkSound 30 = .ok (.iconst 1, 1) := do_04 DX8_isWalkSound_30
theorem dX8_isWalkSound_31 : decode cX8_isWalkSound 31 = .ok (.iadd, 1) := do_60 DX8_isWalkSound_31
theorem dX8_isWalkSound_32 : decode cX8_isWalkSound 32 = .ok (.invokestatic 138, 3) := do_b8 DX8_isWalkSound_32
theorem dX8_isWalkSound_35 : decode cX8_isWalkSound 35 = .ok (.iconst 1, 1) := do_04 DX8_isWalkSound_35
theorem dX8_isWalkSound_36 : decode cX8_isWalkSound 36 = .ok (.iaload, 1) := do_2e DX8_isWalkSound_36
theorem dX8_isWalkSound_37 : decode cX8_isWalkSound 37 = .ok (.istore 6, 2) := do_36 DX8_isWalkSound_37
theorem dX8_isWalkSound_39 : decode cX8_isWalkSound 39 = .ok (.aload 4, 2) := do_19 DX8_isWalkSound_39
theorem dX8_isWalkSound_41 : decode cX8_isWalkSound 41 = .ok (.iconst 0, 1) := do_03 DX8_isWalkSound_41
theorem dX8_isWalkSound_42 : decode cX8_isWalkSound 42 = .ok (.iaload, 1) := do_2e DX8_isWalkSound_42
theorem dX8_isWalkSound_43 : decode cX8_isWalkSound 43 = .ok (.iconst 0, 1) := do_03 DX8_isWalkSound_43
theorem dX8_isWalkSound_44 : decode cX8_isWalkSound 44 = .ok (.iload_n 2, 1) := do_1c DX8_isWalkSound_44
theorem dX8_isWalkSound_45 : decode cX8_isWalkSound 45 = .ok (.invokestatic 130, 3) := do_b8 DX8_isWalkSound_45
theorem dX8_isWalkSound_48 : decode cX8_isWalkSound 48 = .ok (.invokestatic 49, 3) := do_b8 DX8_isWalkSound_48
theorem dX8_isWalkSound_51 : decode cX8_isWalkSound 51 = .ok (.ifCond .eq 35, 3) := do_99 DX8_isWalkSound_51 (by decide +kernel)
theorem dX8_isWalkSound_54 : decode cX8_isWalkSound 54 = .ok (.aload 4, 2) := do_19 DX8_isWalkSound_54
theorem dX8_isWalkSound_56 : decode cX8_isWalkSound 56 = .ok (.iconst 1, 1) := do_04 DX8_isWalkSound_56
theorem dX8_isWalkSound_57 : decode cX8_isWalkSound 57 = .ok (.iaload, 1) := do_2e DX8_isWalkSound_57
theorem dX8_isWalkSound_58 : decode cX8_isWalkSound 58 = .ok (.iconst 1, 1) := do_04 DX8_isWalkSound_58
theorem dX8_isWalkSound_59 : decode cX8_isWalkSound 59 = .ok (.iconst 2, 1) := do_05 DX8_isWalkSound_59
theorem dX8_isWalkSound_60 : decode cX8_isWalkSound 60 = .ok (.iload_n 2, 1) := do_1c DX8_isWalkSound_60
theorem dX8_isWalkSound_61 : decode cX8_isWalkSound 61 = .ok (.invokestatic 130, 3) := do_b8 DX8_isWalkSound_61
theorem dX8_isWalkSound_64 : decode cX8_isWalkSound 64 = .ok (.imul, 1) := do_68 DX8_isWalkSound_64
theorem dX8_isWalkSound_65 : decode cX8_isWalkSound 65 = .ok (.invokestatic 49, 3) := do_b8 DX8_isWalkSound_65
theorem dX8_isWalkSound_68 : decode cX8_isWalkSound 68 = .ok (.ifCond .eq 18, 3) := do_99 DX8_isWalkSound_68 (by decide +kernel)
theorem dX8_isWalkSound_71 : decode cX8_isWalkSound 71 = .ok (.iload_n 2, 1) := do_1c DX8_isWalkSound_71
theorem dX8_isWalkSound_72 : decode cX8_isWalkSound 72 = .ok (.aload 5, 2) := do_19 DX8_isWalkSound_72
theorem dX8_isWalkSound_74 : decode cX8_isWalkSound 74 = .ok (.iconst 0, 1) := do_03 DX8_isWalkSound_74
theorem dX8_isWalkSound_75 : decode cX8_isWalkSound 75 = .ok (.invokestatic 192, 3) := do_b8 DX8_isWalkSound_75
theorem dX8_isWalkSound_78 : decode cX8_isWalkSound 78 = .ok (.iconst 1, 1) := do_04 DX8_isWalkSound_78
theorem dX8_isWalkSound_79 : decode cX8_isWalkSound 79 = .ok (.if_icmp .ne 7, 3) := do_a0 DX8_isWalkSound_79 (by decide +kernel)
theorem dX8_isWalkSound_82 : decode cX8_isWalkSound 82 = .ok (.iconst 1, 1) := do_04 DX8_isWalkSound_82
theorem dX8_isWalkSound_83 : decode cX8_isWalkSound 83 = .ok (.goto 4, 3) := do_a7 DX8_isWalkSound_83 (by decide +kernel)
theorem dX8_isWalkSound_86 : decode cX8_isWalkSound 86 = .ok (.iconst 0, 1) := do_03 DX8_isWalkSound_86
theorem dX8_isWalkSound_87 : decode cX8_isWalkSound 87 = .ok (.istore 7, 2) := do_36 DX8_isWalkSound_87
theorem dX8_isWalkSound_89 : decode cX8_isWalkSound 89 = .ok (.iload 7, 2) := do_15 DX8_isWalkSound_89
theorem dX8_isWalkSound_91 : decode cX8_isWalkSound 91 = .ok (.ifCond .eq 67, 3) := do_99 DX8_isWalkSound_91 (by decide +kernel)
theorem dX8_isWalkSound_94 : decode cX8_isWalkSound 94 = .ok (.iload_n 2, 1) := do_1c DX8_isWalkSound_94
theorem dX8_isWalkSound_95 : decode cX8_isWalkSound 95 = .ok (.aload 5, 2) := do_19 DX8_isWalkSound_95
theorem dX8_isWalkSound_97 : decode cX8_isWalkSound 97 = .ok (.iconst 1, 1) := do_04 DX8_isWalkSound_97
theorem dX8_isWalkSound_98 : decode cX8_isWalkSound 98 = .ok (.invokestatic 192, 3) := do_b8 DX8_isWalkSound_98
theorem dX8_isWalkSound_101 : decode cX8_isWalkSound 101 = .ok (.iload_n 3, 1) := do_1d DX8_isWalkSound_101
theorem dX8_isWalkSound_102 : decode cX8_isWalkSound 102 = .ok (.iconst 2, 1) := do_05 DX8_isWalkSound_102
theorem dX8_isWalkSound_103 : decode cX8_isWalkSound 103 = .ok (.irem, 1) := do_70 DX8_isWalkSound_103
theorem dX8_isWalkSound_104 : decode cX8_isWalkSound 104 = .ok (.iconst 1, 1) := do_04 DX8_isWalkSound_104
theorem dX8_isWalkSound_105 : decode cX8_isWalkSound 105 = .ok (.if_icmp .ne 7, 3) := do_a0 DX8_isWalkSound_105 (by decide +kernel)
theorem dX8_isWalkSound_108 : decode cX8_isWalkSound 108 = .ok (.iconst 1, 1) := do_04 DX8_isWalkSound_108
theorem dX8_isWalkSound_109 : decode cX8_isWalkSound 109 = .ok (.goto 4, 3) := do_a7 DX8_isWalkSound_109 (by decide +kernel)
theorem dX8_isWalkSound_112 : decode cX8_isWalkSound 112 = .ok (.iconst (-1), 1) := do_02 DX8_isWalkSound_112
theorem dX8_isWalkSound_113 : decode cX8_isWalkSound 113 = .ok (.if_icmp .ne 45, 3) := do_a0 DX8_isWalkSound_113 (by decide +kernel)
theorem dX8_isWalkSound_116 : decode cX8_isWalkSound 116 = .ok (.iload_n 2, 1) := do_1c DX8_isWalkSound_116
theorem dX8_isWalkSound_117 : decode cX8_isWalkSound 117 = .ok (.aload 5, 2) := do_19 DX8_isWalkSound_117
theorem dX8_isWalkSound_119 : decode cX8_isWalkSound 119 = .ok (.iconst 0, 1) := do_03 DX8_isWalkSound_119
theorem dX8_isWalkSound_120 : decode cX8_isWalkSound 120 = .ok (.aaload, 1) := do_32 DX8_isWalkSound_120
theorem dX8_isWalkSound_121 : decode cX8_isWalkSound 121 = .ok (.aload 5, 2) := do_19 DX8_isWalkSound_121
theorem dX8_isWalkSound_123 : decode cX8_isWalkSound 123 = .ok (.iconst 1, 1) := do_04 DX8_isWalkSound_123
theorem dX8_isWalkSound_124 : decode cX8_isWalkSound 124 = .ok (.aaload, 1) := do_32 DX8_isWalkSound_124
theorem dX8_isWalkSound_125 : decode cX8_isWalkSound 125 = .ok (.invokestatic 188, 3) := do_b8 DX8_isWalkSound_125
theorem dX8_isWalkSound_128 : decode cX8_isWalkSound 128 = .ok (.iload_n 3, 1) := do_1d DX8_isWalkSound_128
theorem dX8_isWalkSound_129 : decode cX8_isWalkSound 129 = .ok (.iconst 2, 1) := do_05 DX8_isWalkSound_129
theorem dX8_isWalkSound_130 : decode cX8_isWalkSound 130 = .ok (.irem, 1) := do_70 DX8_isWalkSound_130
theorem dX8_isWalkSound_131 : decode cX8_isWalkSound 131 = .ok (.iconst 1, 1) := do_04 DX8_isWalkSound_131
theorem dX8_isWalkSound_132 : decode cX8_isWalkSound 132 = .ok (.if_icmp .ne 9, 3) := do_a0 DX8_isWalkSound_132 (by decide +kernel)
theorem dX8_isWalkSound_135 : decode cX8_isWalkSound 135 = .ok (.iload 6, 2) := do_15 DX8_isWalkSound_135
theorem dX8_isWalkSound_137 : decode cX8_isWalkSound 137 = .ok (.i2l, 1) := do_85 DX8_isWalkSound_137
theorem dX8_isWalkSound_138 : decode cX8_isWalkSound 138 = .ok (.goto 7, 3) := do_a7 DX8_isWalkSound_138 (by decide +kernel)
theorem dX8_isWalkSound_141 : decode cX8_isWalkSound 141 = .ok (.iload 6, 2) := do_15 DX8_isWalkSound_141
theorem dX8_isWalkSound_143 : decode cX8_isWalkSound 143 = .ok (.ineg, 1) := do_74 DX8_isWalkSound_143
theorem dX8_isWalkSound_144 : decode cX8_isWalkSound 144 = .ok (.i2l, 1) := do_85 DX8_isWalkSound_144
theorem dX8_isWalkSound_145 : decode cX8_isWalkSound 145 = .ok (.invokestatic 20, 3) := do_b8 DX8_isWalkSound_145
theorem dX8_isWalkSound_148 : decode cX8_isWalkSound 148 = .ok (.invokestatic 199, 3) := do_b8 DX8_isWalkSound_148
theorem dX8_isWalkSound_151 : decode cX8_isWalkSound 151 = .ok (.ifCond .ne 7, 3) := do_9a DX8_isWalkSound_151 (by decide +kernel)
theorem dX8_isWalkSound_154 : decode cX8_isWalkSound 154 = .ok (.iconst 1, 1) := do_04 DX8_isWalkSound_154
theorem dX8_isWalkSound_155 : decode cX8_isWalkSound 155 = .ok (.goto 4, 3) := do_a7 DX8_isWalkSound_155 (by decide +kernel)
theorem dX8_isWalkSound_158 : decode cX8_isWalkSound 158 = .ok (.iconst 0, 1) := do_03 DX8_isWalkSound_158
theorem dX8_isWalkSound_159 : decode cX8_isWalkSound 159 = .ok (.ireturn, 1) := do_ac DX8_isWalkSound_159
def TX8_isWhole_205 : List UInt8 := []
def TX8_isWhole_204 : List UInt8 := 172 :: TX8_isWhole_205
def TX8_isWhole_203 : List UInt8 := 27 :: TX8_isWhole_204
def TX8_isWhole_200 : List UInt8 := 167 :: 255 :: 60 :: TX8_isWhole_203
def TX8_isWhole_197 : List UInt8 := 132 :: 2 :: 1 :: TX8_isWhole_200
def TX8_isWhole_196 : List UInt8 := 60 :: TX8_isWhole_197
def TX8_isWhole_195 : List UInt8 := 126 :: TX8_isWhole_196
def TX8_isWhole_194 : List UInt8 := 3 :: TX8_isWhole_195
def TX8_isWhole_191 : List UInt8 := 167 :: 0 :: 4 :: TX8_isWhole_194
def TX8_isWhole_190 : List UInt8 := 4 :: TX8_isWhole_191
def TX8_isWhole_187 : List UInt8 := 160 :: 0 :: 7 :: TX8_isWhole_190
def TX8_isWhole_186 : List UInt8 := 46 :: TX8_isWhole_187
def TX8_isWhole_185 : List UInt8 := 3 :: TX8_isWhole_186
def TX8_isWhole_183 : List UInt8 := 25 :: 5 :: TX8_isWhole_185
def TX8_isWhole_182 : List UInt8 := 96 :: TX8_isWhole_183
def TX8_isWhole_181 : List UInt8 := 104 :: TX8_isWhole_182
def TX8_isWhole_178 : List UInt8 := 184 :: 0 :: 196 :: TX8_isWhole_181
def TX8_isWhole_177 : List UInt8 := 46 :: TX8_isWhole_178
def TX8_isWhole_176 : List UInt8 := 6 :: TX8_isWhole_177
def TX8_isWhole_174 : List UInt8 := 25 :: 5 :: TX8_isWhole_176
def TX8_isWhole_173 : List UInt8 := 46 :: TX8_isWhole_174
def TX8_isWhole_172 : List UInt8 := 5 :: TX8_isWhole_173
def TX8_isWhole_170 : List UInt8 := 25 :: 5 :: TX8_isWhole_172
def TX8_isWhole_169 : List UInt8 := 104 :: TX8_isWhole_170
def TX8_isWhole_166 : List UInt8 := 184 :: 0 :: 196 :: TX8_isWhole_169
def TX8_isWhole_165 : List UInt8 := 46 :: TX8_isWhole_166
def TX8_isWhole_164 : List UInt8 := 7 :: TX8_isWhole_165
def TX8_isWhole_162 : List UInt8 := 25 :: 5 :: TX8_isWhole_164
def TX8_isWhole_161 : List UInt8 := 46 :: TX8_isWhole_162
def TX8_isWhole_160 : List UInt8 := 4 :: TX8_isWhole_161
def TX8_isWhole_158 : List UInt8 := 25 :: 5 :: TX8_isWhole_160
def TX8_isWhole_155 : List UInt8 := 154 :: 0 :: 39 :: TX8_isWhole_158
def TX8_isWhole_154 : List UInt8 := 112 :: TX8_isWhole_155
def TX8_isWhole_153 : List UInt8 := 46 :: TX8_isWhole_154
def TX8_isWhole_152 : List UInt8 := 3 :: TX8_isWhole_153
def TX8_isWhole_150 : List UInt8 := 25 :: 5 :: TX8_isWhole_152
def TX8_isWhole_149 : List UInt8 := 96 :: TX8_isWhole_150
def TX8_isWhole_148 : List UInt8 := 4 :: TX8_isWhole_149
def TX8_isWhole_147 : List UInt8 := 104 :: TX8_isWhole_148
def TX8_isWhole_145 : List UInt8 := 21 :: 6 :: TX8_isWhole_147
def TX8_isWhole_143 : List UInt8 := 21 :: 6 :: TX8_isWhole_145
def TX8_isWhole_140 : List UInt8 := 154 :: 0 :: 54 :: TX8_isWhole_143
def TX8_isWhole_139 : List UInt8 := 112 :: TX8_isWhole_140
def TX8_isWhole_138 : List UInt8 := 46 :: TX8_isWhole_139
def TX8_isWhole_137 : List UInt8 := 3 :: TX8_isWhole_138
def TX8_isWhole_135 : List UInt8 := 25 :: 5 :: TX8_isWhole_137
def TX8_isWhole_134 : List UInt8 := 96 :: TX8_isWhole_135
def TX8_isWhole_133 : List UInt8 := 104 :: TX8_isWhole_134
def TX8_isWhole_132 : List UInt8 := 46 :: TX8_isWhole_133
def TX8_isWhole_131 : List UInt8 := 6 :: TX8_isWhole_132
def TX8_isWhole_129 : List UInt8 := 25 :: 5 :: TX8_isWhole_131
def TX8_isWhole_128 : List UInt8 := 46 :: TX8_isWhole_129
def TX8_isWhole_127 : List UInt8 := 6 :: TX8_isWhole_128
def TX8_isWhole_125 : List UInt8 := 25 :: 5 :: TX8_isWhole_127
def TX8_isWhole_124 : List UInt8 := 104 :: TX8_isWhole_125
def TX8_isWhole_123 : List UInt8 := 46 :: TX8_isWhole_124
def TX8_isWhole_122 : List UInt8 := 4 :: TX8_isWhole_123
def TX8_isWhole_120 : List UInt8 := 25 :: 5 :: TX8_isWhole_122
def TX8_isWhole_119 : List UInt8 := 46 :: TX8_isWhole_120
def TX8_isWhole_118 : List UInt8 := 4 :: TX8_isWhole_119
def TX8_isWhole_116 : List UInt8 := 25 :: 5 :: TX8_isWhole_118
def TX8_isWhole_115 : List UInt8 := 27 :: TX8_isWhole_116
def TX8_isWhole_114 : List UInt8 := 60 :: TX8_isWhole_115
def TX8_isWhole_113 : List UInt8 := 126 :: TX8_isWhole_114
def TX8_isWhole_112 : List UInt8 := 3 :: TX8_isWhole_113
def TX8_isWhole_109 : List UInt8 := 167 :: 0 :: 4 :: TX8_isWhole_112
def TX8_isWhole_108 : List UInt8 := 4 :: TX8_isWhole_109
def TX8_isWhole_105 : List UInt8 := 160 :: 0 :: 7 :: TX8_isWhole_108
def TX8_isWhole_104 : List UInt8 := 3 :: TX8_isWhole_105
def TX8_isWhole_101 : List UInt8 := 167 :: 0 :: 4 :: TX8_isWhole_104
def TX8_isWhole_100 : List UInt8 := 4 :: TX8_isWhole_101
def TX8_isWhole_97 : List UInt8 := 154 :: 0 :: 7 :: TX8_isWhole_100
def TX8_isWhole_96 : List UInt8 := 46 :: TX8_isWhole_97
def TX8_isWhole_95 : List UInt8 := 3 :: TX8_isWhole_96
def TX8_isWhole_93 : List UInt8 := 25 :: 4 :: TX8_isWhole_95
def TX8_isWhole_90 : List UInt8 := 154 :: 0 :: 14 :: TX8_isWhole_93
def TX8_isWhole_89 : List UInt8 := 46 :: TX8_isWhole_90
def TX8_isWhole_88 : List UInt8 := 3 :: TX8_isWhole_89
def TX8_isWhole_87 : List UInt8 := 45 :: TX8_isWhole_88
def TX8_isWhole_86 : List UInt8 := 3 :: TX8_isWhole_87
def TX8_isWhole_83 : List UInt8 := 167 :: 0 :: 4 :: TX8_isWhole_86
def TX8_isWhole_82 : List UInt8 := 4 :: TX8_isWhole_83
def TX8_isWhole_79 : List UInt8 := 154 :: 0 :: 7 :: TX8_isWhole_82
def TX8_isWhole_78 : List UInt8 := 46 :: TX8_isWhole_79
def TX8_isWhole_77 : List UInt8 := 3 :: TX8_isWhole_78
def TX8_isWhole_74 : List UInt8 := 184 :: 0 :: 188 :: TX8_isWhole_77
def TX8_isWhole_72 : List UInt8 := 25 :: 4 :: TX8_isWhole_74
def TX8_isWhole_71 : List UInt8 := 45 :: TX8_isWhole_72
def TX8_isWhole_70 : List UInt8 := 46 :: TX8_isWhole_71
def TX8_isWhole_69 : List UInt8 := 28 :: TX8_isWhole_70
def TX8_isWhole_66 : List UInt8 := 180 :: 0 :: 16 :: TX8_isWhole_69
def TX8_isWhole_65 : List UInt8 := 42 :: TX8_isWhole_66
def TX8_isWhole_62 : List UInt8 := 154 :: 0 :: 50 :: TX8_isWhole_65
def TX8_isWhole_59 : List UInt8 := 184 :: 0 :: 236 :: TX8_isWhole_62
def TX8_isWhole_57 : List UInt8 := 25 :: 4 :: TX8_isWhole_59
def TX8_isWhole_54 : List UInt8 := 154 :: 0 :: 58 :: TX8_isWhole_57
def TX8_isWhole_51 : List UInt8 := 184 :: 0 :: 236 :: TX8_isWhole_54
def TX8_isWhole_50 : List UInt8 := 45 :: TX8_isWhole_51
def TX8_isWhole_47 : List UInt8 := 153 :: 0 :: 65 :: TX8_isWhole_50
def TX8_isWhole_44 : List UInt8 := 182 :: 1 :: 21 :: TX8_isWhole_47
def TX8_isWhole_43 : List UInt8 := 28 :: TX8_isWhole_44
def TX8_isWhole_42 : List UInt8 := 42 :: TX8_isWhole_43
def TX8_isWhole_41 : List UInt8 := 27 :: TX8_isWhole_42
def TX8_isWhole_39 : List UInt8 := 54 :: 6 :: TX8_isWhole_41
def TX8_isWhole_36 : List UInt8 := 184 :: 1 :: 1 :: TX8_isWhole_39
def TX8_isWhole_35 : List UInt8 := 46 :: TX8_isWhole_36
def TX8_isWhole_34 : List UInt8 := 3 :: TX8_isWhole_35
def TX8_isWhole_32 : List UInt8 := 25 :: 5 :: TX8_isWhole_34
def TX8_isWhole_30 : List UInt8 := 58 :: 5 :: TX8_isWhole_32
def TX8_isWhole_29 : List UInt8 := 50 :: TX8_isWhole_30
def TX8_isWhole_28 : List UInt8 := 28 :: TX8_isWhole_29
def TX8_isWhole_25 : List UInt8 := 180 :: 0 :: 35 :: TX8_isWhole_28
def TX8_isWhole_24 : List UInt8 := 42 :: TX8_isWhole_25
def TX8_isWhole_22 : List UInt8 := 58 :: 4 :: TX8_isWhole_24
def TX8_isWhole_21 : List UInt8 := 50 :: TX8_isWhole_22
def TX8_isWhole_20 : List UInt8 := 28 :: TX8_isWhole_21
def TX8_isWhole_17 : List UInt8 := 180 :: 0 :: 28 :: TX8_isWhole_20
def TX8_isWhole_16 : List UInt8 := 42 :: TX8_isWhole_17
def TX8_isWhole_15 : List UInt8 := 78 :: TX8_isWhole_16
def TX8_isWhole_14 : List UInt8 := 50 :: TX8_isWhole_15
def TX8_isWhole_13 : List UInt8 := 28 :: TX8_isWhole_14
def TX8_isWhole_10 : List UInt8 := 180 :: 0 :: 24 :: TX8_isWhole_13
def TX8_isWhole_9 : List UInt8 := 42 :: TX8_isWhole_10
def TX8_isWhole_6 : List UInt8 := 162 :: 0 :: 197 :: TX8_isWhole_9
def TX8_isWhole_5 : List UInt8 := 6 :: TX8_isWhole_6
def TX8_isWhole_4 : List UInt8 := 28 :: TX8_isWhole_5
def TX8_isWhole_3 : List UInt8 := 61 :: TX8_isWhole_4
def TX8_isWhole_2 : List UInt8 := 3 :: TX8_isWhole_3
def TX8_isWhole_1 : List UInt8 := 60 :: TX8_isWhole_2
def TX8_isWhole_0 : List UInt8 := 4 :: TX8_isWhole_1
theorem DX8_isWhole_0 : cX8_isWhole.data.toList.drop 0 = TX8_isWhole_0 := by decide +kernel
theorem DX8_isWhole_1 : cX8_isWhole.data.toList.drop 1 = TX8_isWhole_1 := dr1 DX8_isWhole_0
theorem DX8_isWhole_2 : cX8_isWhole.data.toList.drop 2 = TX8_isWhole_2 := dr1 DX8_isWhole_1
theorem DX8_isWhole_3 : cX8_isWhole.data.toList.drop 3 = TX8_isWhole_3 := dr1 DX8_isWhole_2
theorem DX8_isWhole_4 : cX8_isWhole.data.toList.drop 4 = TX8_isWhole_4 := dr1 DX8_isWhole_3
theorem DX8_isWhole_5 : cX8_isWhole.data.toList.drop 5 = TX8_isWhole_5 := dr1 DX8_isWhole_4
theorem DX8_isWhole_6 : cX8_isWhole.data.toList.drop 6 = TX8_isWhole_6 := dr1 DX8_isWhole_5
theorem DX8_isWhole_9 : cX8_isWhole.data.toList.drop 9 = TX8_isWhole_9 := dr3 DX8_isWhole_6
theorem DX8_isWhole_10 : cX8_isWhole.data.toList.drop 10 = TX8_isWhole_10 := dr1 DX8_isWhole_9
theorem DX8_isWhole_13 : cX8_isWhole.data.toList.drop 13 = TX8_isWhole_13 := dr3 DX8_isWhole_10
theorem DX8_isWhole_14 : cX8_isWhole.data.toList.drop 14 = TX8_isWhole_14 := dr1 DX8_isWhole_13
theorem DX8_isWhole_15 : cX8_isWhole.data.toList.drop 15 = TX8_isWhole_15 := dr1 DX8_isWhole_14
theorem DX8_isWhole_16 : cX8_isWhole.data.toList.drop 16 = TX8_isWhole_16 := dr1 DX8_isWhole_15
theorem DX8_isWhole_17 : cX8_isWhole.data.toList.drop 17 = TX8_isWhole_17 := dr1 DX8_isWhole_16
theorem DX8_isWhole_20 : cX8_isWhole.data.toList.drop 20 = TX8_isWhole_20 := dr3 DX8_isWhole_17
theorem DX8_isWhole_21 : cX8_isWhole.data.toList.drop 21 = TX8_isWhole_21 := dr1 DX8_isWhole_20
theorem DX8_isWhole_22 : cX8_isWhole.data.toList.drop 22 = TX8_isWhole_22 := dr1 DX8_isWhole_21
theorem DX8_isWhole_24 : cX8_isWhole.data.toList.drop 24 = TX8_isWhole_24 := dr2 DX8_isWhole_22
theorem DX8_isWhole_25 : cX8_isWhole.data.toList.drop 25 = TX8_isWhole_25 := dr1 DX8_isWhole_24
theorem DX8_isWhole_28 : cX8_isWhole.data.toList.drop 28 = TX8_isWhole_28 := dr3 DX8_isWhole_25
theorem DX8_isWhole_29 : cX8_isWhole.data.toList.drop 29 = TX8_isWhole_29 := dr1 DX8_isWhole_28
theorem DX8_isWhole_30 : cX8_isWhole.data.toList.drop 30 = TX8_isWhole_30 := dr1 DX8_isWhole_29
theorem DX8_isWhole_32 : cX8_isWhole.data.toList.drop 32 = TX8_isWhole_32 := dr2 DX8_isWhole_30
theorem DX8_isWhole_34 : cX8_isWhole.data.toList.drop 34 = TX8_isWhole_34 := dr2 DX8_isWhole_32
theorem DX8_isWhole_35 : cX8_isWhole.data.toList.drop 35 = TX8_isWhole_35 := dr1 DX8_isWhole_34
theorem DX8_isWhole_36 : cX8_isWhole.data.toList.drop 36 = TX8_isWhole_36 := dr1 DX8_isWhole_35
theorem DX8_isWhole_39 : cX8_isWhole.data.toList.drop 39 = TX8_isWhole_39 := dr3 DX8_isWhole_36
theorem DX8_isWhole_41 : cX8_isWhole.data.toList.drop 41 = TX8_isWhole_41 := dr2 DX8_isWhole_39
theorem DX8_isWhole_42 : cX8_isWhole.data.toList.drop 42 = TX8_isWhole_42 := dr1 DX8_isWhole_41
theorem DX8_isWhole_43 : cX8_isWhole.data.toList.drop 43 = TX8_isWhole_43 := dr1 DX8_isWhole_42
theorem DX8_isWhole_44 : cX8_isWhole.data.toList.drop 44 = TX8_isWhole_44 := dr1 DX8_isWhole_43
theorem DX8_isWhole_47 : cX8_isWhole.data.toList.drop 47 = TX8_isWhole_47 := dr3 DX8_isWhole_44
theorem DX8_isWhole_50 : cX8_isWhole.data.toList.drop 50 = TX8_isWhole_50 := dr3 DX8_isWhole_47
theorem DX8_isWhole_51 : cX8_isWhole.data.toList.drop 51 = TX8_isWhole_51 := dr1 DX8_isWhole_50
theorem DX8_isWhole_54 : cX8_isWhole.data.toList.drop 54 = TX8_isWhole_54 := dr3 DX8_isWhole_51
theorem DX8_isWhole_57 : cX8_isWhole.data.toList.drop 57 = TX8_isWhole_57 := dr3 DX8_isWhole_54
theorem DX8_isWhole_59 : cX8_isWhole.data.toList.drop 59 = TX8_isWhole_59 := dr2 DX8_isWhole_57
theorem DX8_isWhole_62 : cX8_isWhole.data.toList.drop 62 = TX8_isWhole_62 := dr3 DX8_isWhole_59
theorem DX8_isWhole_65 : cX8_isWhole.data.toList.drop 65 = TX8_isWhole_65 := dr3 DX8_isWhole_62
theorem DX8_isWhole_66 : cX8_isWhole.data.toList.drop 66 = TX8_isWhole_66 := dr1 DX8_isWhole_65
theorem DX8_isWhole_69 : cX8_isWhole.data.toList.drop 69 = TX8_isWhole_69 := dr3 DX8_isWhole_66
theorem DX8_isWhole_70 : cX8_isWhole.data.toList.drop 70 = TX8_isWhole_70 := dr1 DX8_isWhole_69
theorem DX8_isWhole_71 : cX8_isWhole.data.toList.drop 71 = TX8_isWhole_71 := dr1 DX8_isWhole_70
theorem DX8_isWhole_72 : cX8_isWhole.data.toList.drop 72 = TX8_isWhole_72 := dr1 DX8_isWhole_71
theorem DX8_isWhole_74 : cX8_isWhole.data.toList.drop 74 = TX8_isWhole_74 := dr2 DX8_isWhole_72
theorem DX8_isWhole_77 : cX8_isWhole.data.toList.drop 77 = TX8_isWhole_77 := dr3 DX8_isWhole_74
theorem DX8_isWhole_78 : cX8_isWhole.data.toList.drop 78 = TX8_isWhole_78 := dr1 DX8_isWhole_77
theorem DX8_isWhole_79 : cX8_isWhole.data.toList.drop 79 = TX8_isWhole_79 := dr1 DX8_isWhole_78
theorem DX8_isWhole_82 : cX8_isWhole.data.toList.drop 82 = TX8_isWhole_82 := dr3 DX8_isWhole_79
theorem DX8_isWhole_83 : cX8_isWhole.data.toList.drop 83 = TX8_isWhole_83 := dr1 DX8_isWhole_82
theorem DX8_isWhole_86 : cX8_isWhole.data.toList.drop 86 = TX8_isWhole_86 := dr3 DX8_isWhole_83
theorem DX8_isWhole_87 : cX8_isWhole.data.toList.drop 87 = TX8_isWhole_87 := dr1 DX8_isWhole_86
theorem DX8_isWhole_88 : cX8_isWhole.data.toList.drop 88 = TX8_isWhole_88 := dr1 DX8_isWhole_87
theorem DX8_isWhole_89 : cX8_isWhole.data.toList.drop 89 = TX8_isWhole_89 := dr1 DX8_isWhole_88
theorem DX8_isWhole_90 : cX8_isWhole.data.toList.drop 90 = TX8_isWhole_90 := dr1 DX8_isWhole_89
theorem DX8_isWhole_93 : cX8_isWhole.data.toList.drop 93 = TX8_isWhole_93 := dr3 DX8_isWhole_90
theorem DX8_isWhole_95 : cX8_isWhole.data.toList.drop 95 = TX8_isWhole_95 := dr2 DX8_isWhole_93
theorem DX8_isWhole_96 : cX8_isWhole.data.toList.drop 96 = TX8_isWhole_96 := dr1 DX8_isWhole_95
theorem DX8_isWhole_97 : cX8_isWhole.data.toList.drop 97 = TX8_isWhole_97 := dr1 DX8_isWhole_96
theorem DX8_isWhole_100 : cX8_isWhole.data.toList.drop 100 = TX8_isWhole_100 := dr3 DX8_isWhole_97
theorem DX8_isWhole_101 : cX8_isWhole.data.toList.drop 101 = TX8_isWhole_101 := dr1 DX8_isWhole_100
theorem DX8_isWhole_104 : cX8_isWhole.data.toList.drop 104 = TX8_isWhole_104 := dr3 DX8_isWhole_101
theorem DX8_isWhole_105 : cX8_isWhole.data.toList.drop 105 = TX8_isWhole_105 := dr1 DX8_isWhole_104
theorem DX8_isWhole_108 : cX8_isWhole.data.toList.drop 108 = TX8_isWhole_108 := dr3 DX8_isWhole_105
theorem DX8_isWhole_109 : cX8_isWhole.data.toList.drop 109 = TX8_isWhole_109 := dr1 DX8_isWhole_108
theorem DX8_isWhole_112 : cX8_isWhole.data.toList.drop 112 = TX8_isWhole_112 := dr3 DX8_isWhole_109
theorem DX8_isWhole_113 : cX8_isWhole.data.toList.drop 113 = TX8_isWhole_113 := dr1 DX8_isWhole_112
theorem DX8_isWhole_114 : cX8_isWhole.data.toList.drop 114 = TX8_isWhole_114 := dr1 DX8_isWhole_113
theorem DX8_isWhole_115 : cX8_isWhole.data.toList.drop 115 = TX8_isWhole_115 := dr1 DX8_isWhole_114
theorem DX8_isWhole_116 : cX8_isWhole.data.toList.drop 116 = TX8_isWhole_116 := dr1 DX8_isWhole_115
theorem DX8_isWhole_118 : cX8_isWhole.data.toList.drop 118 = TX8_isWhole_118 := dr2 DX8_isWhole_116
theorem DX8_isWhole_119 : cX8_isWhole.data.toList.drop 119 = TX8_isWhole_119 := dr1 DX8_isWhole_118
theorem DX8_isWhole_120 : cX8_isWhole.data.toList.drop 120 = TX8_isWhole_120 := dr1 DX8_isWhole_119
theorem DX8_isWhole_122 : cX8_isWhole.data.toList.drop 122 = TX8_isWhole_122 := dr2 DX8_isWhole_120
theorem DX8_isWhole_123 : cX8_isWhole.data.toList.drop 123 = TX8_isWhole_123 := dr1 DX8_isWhole_122
theorem DX8_isWhole_124 : cX8_isWhole.data.toList.drop 124 = TX8_isWhole_124 := dr1 DX8_isWhole_123
theorem DX8_isWhole_125 : cX8_isWhole.data.toList.drop 125 = TX8_isWhole_125 := dr1 DX8_isWhole_124
theorem DX8_isWhole_127 : cX8_isWhole.data.toList.drop 127 = TX8_isWhole_127 := dr2 DX8_isWhole_125
theorem DX8_isWhole_128 : cX8_isWhole.data.toList.drop 128 = TX8_isWhole_128 := dr1 DX8_isWhole_127
theorem DX8_isWhole_129 : cX8_isWhole.data.toList.drop 129 = TX8_isWhole_129 := dr1 DX8_isWhole_128
theorem DX8_isWhole_131 : cX8_isWhole.data.toList.drop 131 = TX8_isWhole_131 := dr2 DX8_isWhole_129
theorem DX8_isWhole_132 : cX8_isWhole.data.toList.drop 132 = TX8_isWhole_132 := dr1 DX8_isWhole_131
theorem DX8_isWhole_133 : cX8_isWhole.data.toList.drop 133 = TX8_isWhole_133 := dr1 DX8_isWhole_132
theorem DX8_isWhole_134 : cX8_isWhole.data.toList.drop 134 = TX8_isWhole_134 := dr1 DX8_isWhole_133
theorem DX8_isWhole_135 : cX8_isWhole.data.toList.drop 135 = TX8_isWhole_135 := dr1 DX8_isWhole_134
theorem DX8_isWhole_137 : cX8_isWhole.data.toList.drop 137 = TX8_isWhole_137 := dr2 DX8_isWhole_135
theorem DX8_isWhole_138 : cX8_isWhole.data.toList.drop 138 = TX8_isWhole_138 := dr1 DX8_isWhole_137
theorem DX8_isWhole_139 : cX8_isWhole.data.toList.drop 139 = TX8_isWhole_139 := dr1 DX8_isWhole_138
theorem DX8_isWhole_140 : cX8_isWhole.data.toList.drop 140 = TX8_isWhole_140 := dr1 DX8_isWhole_139
theorem DX8_isWhole_143 : cX8_isWhole.data.toList.drop 143 = TX8_isWhole_143 := dr3 DX8_isWhole_140
theorem DX8_isWhole_145 : cX8_isWhole.data.toList.drop 145 = TX8_isWhole_145 := dr2 DX8_isWhole_143
theorem DX8_isWhole_147 : cX8_isWhole.data.toList.drop 147 = TX8_isWhole_147 := dr2 DX8_isWhole_145
theorem DX8_isWhole_148 : cX8_isWhole.data.toList.drop 148 = TX8_isWhole_148 := dr1 DX8_isWhole_147
theorem DX8_isWhole_149 : cX8_isWhole.data.toList.drop 149 = TX8_isWhole_149 := dr1 DX8_isWhole_148
theorem DX8_isWhole_150 : cX8_isWhole.data.toList.drop 150 = TX8_isWhole_150 := dr1 DX8_isWhole_149
theorem DX8_isWhole_152 : cX8_isWhole.data.toList.drop 152 = TX8_isWhole_152 := dr2 DX8_isWhole_150
theorem DX8_isWhole_153 : cX8_isWhole.data.toList.drop 153 = TX8_isWhole_153 := dr1 DX8_isWhole_152
theorem DX8_isWhole_154 : cX8_isWhole.data.toList.drop 154 = TX8_isWhole_154 := dr1 DX8_isWhole_153
theorem DX8_isWhole_155 : cX8_isWhole.data.toList.drop 155 = TX8_isWhole_155 := dr1 DX8_isWhole_154
theorem DX8_isWhole_158 : cX8_isWhole.data.toList.drop 158 = TX8_isWhole_158 := dr3 DX8_isWhole_155
theorem DX8_isWhole_160 : cX8_isWhole.data.toList.drop 160 = TX8_isWhole_160 := dr2 DX8_isWhole_158
theorem DX8_isWhole_161 : cX8_isWhole.data.toList.drop 161 = TX8_isWhole_161 := dr1 DX8_isWhole_160
theorem DX8_isWhole_162 : cX8_isWhole.data.toList.drop 162 = TX8_isWhole_162 := dr1 DX8_isWhole_161
theorem DX8_isWhole_164 : cX8_isWhole.data.toList.drop 164 = TX8_isWhole_164 := dr2 DX8_isWhole_162
theorem DX8_isWhole_165 : cX8_isWhole.data.toList.drop 165 = TX8_isWhole_165 := dr1 DX8_isWhole_164
theorem DX8_isWhole_166 : cX8_isWhole.data.toList.drop 166 = TX8_isWhole_166 := dr1 DX8_isWhole_165
theorem DX8_isWhole_169 : cX8_isWhole.data.toList.drop 169 = TX8_isWhole_169 := dr3 DX8_isWhole_166
theorem DX8_isWhole_170 : cX8_isWhole.data.toList.drop 170 = TX8_isWhole_170 := dr1 DX8_isWhole_169
theorem DX8_isWhole_172 : cX8_isWhole.data.toList.drop 172 = TX8_isWhole_172 := dr2 DX8_isWhole_170
theorem DX8_isWhole_173 : cX8_isWhole.data.toList.drop 173 = TX8_isWhole_173 := dr1 DX8_isWhole_172
theorem DX8_isWhole_174 : cX8_isWhole.data.toList.drop 174 = TX8_isWhole_174 := dr1 DX8_isWhole_173
theorem DX8_isWhole_176 : cX8_isWhole.data.toList.drop 176 = TX8_isWhole_176 := dr2 DX8_isWhole_174
theorem DX8_isWhole_177 : cX8_isWhole.data.toList.drop 177 = TX8_isWhole_177 := dr1 DX8_isWhole_176
theorem DX8_isWhole_178 : cX8_isWhole.data.toList.drop 178 = TX8_isWhole_178 := dr1 DX8_isWhole_177
theorem DX8_isWhole_181 : cX8_isWhole.data.toList.drop 181 = TX8_isWhole_181 := dr3 DX8_isWhole_178
theorem DX8_isWhole_182 : cX8_isWhole.data.toList.drop 182 = TX8_isWhole_182 := dr1 DX8_isWhole_181
theorem DX8_isWhole_183 : cX8_isWhole.data.toList.drop 183 = TX8_isWhole_183 := dr1 DX8_isWhole_182
theorem DX8_isWhole_185 : cX8_isWhole.data.toList.drop 185 = TX8_isWhole_185 := dr2 DX8_isWhole_183
theorem DX8_isWhole_186 : cX8_isWhole.data.toList.drop 186 = TX8_isWhole_186 := dr1 DX8_isWhole_185
theorem DX8_isWhole_187 : cX8_isWhole.data.toList.drop 187 = TX8_isWhole_187 := dr1 DX8_isWhole_186
theorem DX8_isWhole_190 : cX8_isWhole.data.toList.drop 190 = TX8_isWhole_190 := dr3 DX8_isWhole_187
theorem DX8_isWhole_191 : cX8_isWhole.data.toList.drop 191 = TX8_isWhole_191 := dr1 DX8_isWhole_190
theorem DX8_isWhole_194 : cX8_isWhole.data.toList.drop 194 = TX8_isWhole_194 := dr3 DX8_isWhole_191
theorem DX8_isWhole_195 : cX8_isWhole.data.toList.drop 195 = TX8_isWhole_195 := dr1 DX8_isWhole_194
theorem DX8_isWhole_196 : cX8_isWhole.data.toList.drop 196 = TX8_isWhole_196 := dr1 DX8_isWhole_195
theorem DX8_isWhole_197 : cX8_isWhole.data.toList.drop 197 = TX8_isWhole_197 := dr1 DX8_isWhole_196
theorem DX8_isWhole_200 : cX8_isWhole.data.toList.drop 200 = TX8_isWhole_200 := dr3 DX8_isWhole_197
theorem DX8_isWhole_203 : cX8_isWhole.data.toList.drop 203 = TX8_isWhole_203 := dr3 DX8_isWhole_200
theorem DX8_isWhole_204 : cX8_isWhole.data.toList.drop 204 = TX8_isWhole_204 := dr1 DX8_isWhole_203
theorem dX8_isWhole_0 : decode cX8_isWhole 0 = .ok (.iconst 1, 1) := do_04 DX8_isWhole_0
theorem dX8_isWhole_1 : decode cX8_isWhole 1 = .ok (.istore_n 1, 1) := do_3c DX8_isWhole_1
theorem dX8_isWhole_2 : decode cX8_isWhole 2 = .ok (.iconst 0, 1) := do_03 DX8_isWhole_2
theorem dX8_isWhole_3 : decode cX8_isWhole 3 = .ok (.istore_n 2, 1) := do_3d DX8_isWhole_3
theorem dX8_isWhole_4 : decode cX8_isWhole 4 = .ok (.iload_n 2, 1) := do_1c DX8_isWhole_4
theorem dX8_isWhole_5 : decode cX8_isWhole 5 = .ok (.iconst 3, 1) := do_06 DX8_isWhole_5
theorem dX8_isWhole_6 : decode cX8_isWhole 6 = .ok (.if_icmp .ge 197, 3) := do_a2 DX8_isWhole_6 (by decide +kernel)
theorem dX8_isWhole_9 : decode cX8_isWhole 9 = .ok (.aload_n 0, 1) := do_2a DX8_isWhole_9
theorem dX8_isWhole_10 : decode cX8_isWhole 10 = .ok (.getfield 24, 3) := do_b4 DX8_isWhole_10
theorem dX8_isWhole_13 : decode cX8_isWhole 13 = .ok (.iload_n 2, 1) := do_1c DX8_isWhole_13
theorem dX8_isWhole_14 : decode cX8_isWhole 14 = .ok (.aaload, 1) := do_32 DX8_isWhole_14
theorem dX8_isWhole_15 : decode cX8_isWhole 15 = .ok (.astore_n 3, 1) := do_4e DX8_isWhole_15
theorem dX8_isWhole_16 : decode cX8_isWhole 16 = .ok (.aload_n 0, 1) := do_2a DX8_isWhole_16
theorem dX8_isWhole_17 : decode cX8_isWhole 17 = .ok (.getfield 28, 3) := do_b4 DX8_isWhole_17
theorem dX8_isWhole_20 : decode cX8_isWhole 20 = .ok (.iload_n 2, 1) := do_1c DX8_isWhole_20
theorem dX8_isWhole_21 : decode cX8_isWhole 21 = .ok (.aaload, 1) := do_32 DX8_isWhole_21
theorem dX8_isWhole_22 : decode cX8_isWhole 22 = .ok (.astore 4, 2) := do_3a DX8_isWhole_22
theorem dX8_isWhole_24 : decode cX8_isWhole 24 = .ok (.aload_n 0, 1) := do_2a DX8_isWhole_24
theorem dX8_isWhole_25 : decode cX8_isWhole 25 = .ok (.getfield 35, 3) := do_b4 DX8_isWhole_25
theorem dX8_isWhole_28 : decode cX8_isWhole 28 = .ok (.iload_n 2, 1) := do_1c DX8_isWhole_28
theorem dX8_isWhole_29 : decode cX8_isWhole 29 = .ok (.aaload, 1) := do_32 DX8_isWhole_29
theorem dX8_isWhole_30 : decode cX8_isWhole 30 = .ok (.astore 5, 2) := do_3a DX8_isWhole_30
theorem dX8_isWhole_32 : decode cX8_isWhole 32 = .ok (.aload 5, 2) := do_19 DX8_isWhole_32
theorem dX8_isWhole_34 : decode cX8_isWhole 34 = .ok (.iconst 0, 1) := do_03 DX8_isWhole_34
theorem dX8_isWhole_35 : decode cX8_isWhole 35 = .ok (.iaload, 1) := do_2e DX8_isWhole_35
theorem dX8_isWhole_36 : decode cX8_isWhole 36 = .ok (.invokestatic 257, 3) := do_b8 DX8_isWhole_36
theorem dX8_isWhole_39 : decode cX8_isWhole 39 = .ok (.istore 6, 2) := do_36 DX8_isWhole_39
theorem dX8_isWhole_41 : decode cX8_isWhole 41 = .ok (.iload_n 1, 1) := do_1b DX8_isWhole_41
theorem dX8_isWhole_42 : decode cX8_isWhole 42 = .ok (.aload_n 0, 1) := do_2a DX8_isWhole_42
theorem dX8_isWhole_43 : decode cX8_isWhole 43 = .ok (.iload_n 2, 1) := do_1c DX8_isWhole_43
theorem dX8_isWhole_44 : decode cX8_isWhole 44 = .ok (.invokevirtual 277, 3) := do_b6 DX8_isWhole_44
theorem dX8_isWhole_47 : decode cX8_isWhole 47 = .ok (.ifCond .eq 65, 3) := do_99 DX8_isWhole_47 (by decide +kernel)
theorem dX8_isWhole_50 : decode cX8_isWhole 50 = .ok (.aload_n 3, 1) := do_2d DX8_isWhole_50
theorem dX8_isWhole_51 : decode cX8_isWhole 51 = .ok (.invokestatic 236, 3) := do_b8 DX8_isWhole_51
theorem dX8_isWhole_54 : decode cX8_isWhole 54 = .ok (.ifCond .ne 58, 3) := do_9a DX8_isWhole_54 (by decide +kernel)
theorem dX8_isWhole_57 : decode cX8_isWhole 57 = .ok (.aload 4, 2) := do_19 DX8_isWhole_57
theorem dX8_isWhole_59 : decode cX8_isWhole 59 = .ok (.invokestatic 236, 3) := do_b8 DX8_isWhole_59
theorem dX8_isWhole_62 : decode cX8_isWhole 62 = .ok (.ifCond .ne 50, 3) := do_9a DX8_isWhole_62 (by decide +kernel)
theorem dX8_isWhole_65 : decode cX8_isWhole 65 = .ok (.aload_n 0, 1) := do_2a DX8_isWhole_65
theorem dX8_isWhole_66 : decode cX8_isWhole 66 = .ok (.getfield 16, 3) := do_b4 DX8_isWhole_66
theorem dX8_isWhole_69 : decode cX8_isWhole 69 = .ok (.iload_n 2, 1) := do_1c DX8_isWhole_69
theorem dX8_isWhole_70 : decode cX8_isWhole 70 = .ok (.iaload, 1) := do_2e DX8_isWhole_70
theorem dX8_isWhole_71 : decode cX8_isWhole 71 = .ok (.aload_n 3, 1) := do_2d DX8_isWhole_71
theorem dX8_isWhole_72 : decode cX8_isWhole 72 = .ok (.aload 4, 2) := do_19 DX8_isWhole_72
theorem dX8_isWhole_74 : decode cX8_isWhole 74 = .ok (.invokestatic 188, 3) := do_b8 DX8_isWhole_74
theorem dX8_isWhole_77 : decode cX8_isWhole 77 = .ok (.iconst 0, 1) := do_03 DX8_isWhole_77
theorem dX8_isWhole_78 : decode cX8_isWhole 78 = .ok (.iaload, 1) := do_2e DX8_isWhole_78
theorem dX8_isWhole_79 : decode cX8_isWhole 79 = .ok (.ifCond .ne 7, 3) := do_9a DX8_isWhole_79 (by decide +kernel)
theorem dX8_isWhole_82 : decode cX8_isWhole 82 = .ok (.iconst 1, 1) := do_04 DX8_isWhole_82
theorem dX8_isWhole_83 : decode cX8_isWhole 83 = .ok (.goto 4, 3) := do_a7 DX8_isWhole_83 (by decide +kernel)
theorem dX8_isWhole_86 : decode cX8_isWhole 86 = .ok (.iconst 0, 1) := do_03 DX8_isWhole_86
theorem dX8_isWhole_87 : decode cX8_isWhole 87 = .ok (.aload_n 3, 1) := do_2d DX8_isWhole_87
theorem dX8_isWhole_88 : decode cX8_isWhole 88 = .ok (.iconst 0, 1) := do_03 DX8_isWhole_88
theorem dX8_isWhole_89 : decode cX8_isWhole 89 = .ok (.iaload, 1) := do_2e DX8_isWhole_89
theorem dX8_isWhole_90 : decode cX8_isWhole 90 = .ok (.ifCond .ne 14, 3) := do_9a DX8_isWhole_90 (by decide +kernel)
theorem dX8_isWhole_93 : decode cX8_isWhole 93 = .ok (.aload 4, 2) := do_19 DX8_isWhole_93
theorem dX8_isWhole_95 : decode cX8_isWhole 95 = .ok (.iconst 0, 1) := do_03 DX8_isWhole_95
theorem dX8_isWhole_96 : decode cX8_isWhole 96 = .ok (.iaload, 1) := do_2e DX8_isWhole_96
theorem dX8_isWhole_97 : decode cX8_isWhole 97 = .ok (.ifCond .ne 7, 3) := do_9a DX8_isWhole_97 (by decide +kernel)
theorem dX8_isWhole_100 : decode cX8_isWhole 100 = .ok (.iconst 1, 1) := do_04 DX8_isWhole_100
theorem dX8_isWhole_101 : decode cX8_isWhole 101 = .ok (.goto 4, 3) := do_a7 DX8_isWhole_101 (by decide +kernel)
theorem dX8_isWhole_104 : decode cX8_isWhole 104 = .ok (.iconst 0, 1) := do_03 DX8_isWhole_104
theorem dX8_isWhole_105 : decode cX8_isWhole 105 = .ok (.if_icmp .ne 7, 3) := do_a0 DX8_isWhole_105 (by decide +kernel)
theorem dX8_isWhole_108 : decode cX8_isWhole 108 = .ok (.iconst 1, 1) := do_04 DX8_isWhole_108
theorem dX8_isWhole_109 : decode cX8_isWhole 109 = .ok (.goto 4, 3) := do_a7 DX8_isWhole_109 (by decide +kernel)
theorem dX8_isWhole_112 : decode cX8_isWhole 112 = .ok (.iconst 0, 1) := do_03 DX8_isWhole_112
theorem dX8_isWhole_113 : decode cX8_isWhole 113 = .ok (.iand, 1) := do_7e DX8_isWhole_113
theorem dX8_isWhole_114 : decode cX8_isWhole 114 = .ok (.istore_n 1, 1) := do_3c DX8_isWhole_114
theorem dX8_isWhole_115 : decode cX8_isWhole 115 = .ok (.iload_n 1, 1) := do_1b DX8_isWhole_115
theorem dX8_isWhole_116 : decode cX8_isWhole 116 = .ok (.aload 5, 2) := do_19 DX8_isWhole_116
theorem dX8_isWhole_118 : decode cX8_isWhole 118 = .ok (.iconst 1, 1) := do_04 DX8_isWhole_118
theorem dX8_isWhole_119 : decode cX8_isWhole 119 = .ok (.iaload, 1) := do_2e DX8_isWhole_119
theorem dX8_isWhole_120 : decode cX8_isWhole 120 = .ok (.aload 5, 2) := do_19 DX8_isWhole_120
theorem dX8_isWhole_122 : decode cX8_isWhole 122 = .ok (.iconst 1, 1) := do_04 DX8_isWhole_122
theorem dX8_isWhole_123 : decode cX8_isWhole 123 = .ok (.iaload, 1) := do_2e DX8_isWhole_123
theorem dX8_isWhole_124 : decode cX8_isWhole 124 = .ok (.imul, 1) := do_68 DX8_isWhole_124
theorem dX8_isWhole_125 : decode cX8_isWhole 125 = .ok (.aload 5, 2) := do_19 DX8_isWhole_125
theorem dX8_isWhole_127 : decode cX8_isWhole 127 = .ok (.iconst 3, 1) := do_06 DX8_isWhole_127
theorem dX8_isWhole_128 : decode cX8_isWhole 128 = .ok (.iaload, 1) := do_2e DX8_isWhole_128
theorem dX8_isWhole_129 : decode cX8_isWhole 129 = .ok (.aload 5, 2) := do_19 DX8_isWhole_129
theorem dX8_isWhole_131 : decode cX8_isWhole 131 = .ok (.iconst 3, 1) := do_06 DX8_isWhole_131
theorem dX8_isWhole_132 : decode cX8_isWhole 132 = .ok (.iaload, 1) := do_2e DX8_isWhole_132
theorem dX8_isWhole_133 : decode cX8_isWhole 133 = .ok (.imul, 1) := do_68 DX8_isWhole_133
theorem dX8_isWhole_134 : decode cX8_isWhole 134 = .ok (.iadd, 1) := do_60 DX8_isWhole_134
theorem dX8_isWhole_135 : decode cX8_isWhole 135 = .ok (.aload 5, 2) := do_19 DX8_isWhole_135
theorem dX8_isWhole_137 : decode cX8_isWhole 137 = .ok (.iconst 0, 1) := do_03 DX8_isWhole_137
theorem dX8_isWhole_138 : decode cX8_isWhole 138 = .ok (.iaload, 1) := do_2e DX8_isWhole_138
theorem dX8_isWhole_139 : decode cX8_isWhole 139 = .ok (.irem, 1) := do_70 DX8_isWhole_139
theorem dX8_isWhole_140 : decode cX8_isWhole 140 = .ok (.ifCond .ne 54, 3) := do_9a DX8_isWhole_140 (by decide +kernel)
theorem dX8_isWhole_143 : decode cX8_isWhole 143 = .ok (.iload 6, 2) := do_15 DX8_isWhole_143
theorem dX8_isWhole_145 : decode cX8_isWhole 145 = .ok (.iload 6, 2) := do_15 DX8_isWhole_145
theorem dX8_isWhole_147 : decode cX8_isWhole 147 = .ok (.imul, 1) := do_68 DX8_isWhole_147
theorem dX8_isWhole_148 : decode cX8_isWhole 148 = .ok (.iconst 1, 1) := do_04 DX8_isWhole_148
theorem dX8_isWhole_149 : decode cX8_isWhole 149 = .ok (.iadd, 1) := do_60 DX8_isWhole_149
theorem dX8_isWhole_150 : decode cX8_isWhole 150 = .ok (.aload 5, 2) := do_19 DX8_isWhole_150
theorem dX8_isWhole_152 : decode cX8_isWhole 152 = .ok (.iconst 0, 1) := do_03 DX8_isWhole_152
theorem dX8_isWhole_153 : decode cX8_isWhole 153 = .ok (.iaload, 1) := do_2e DX8_isWhole_153
theorem dX8_isWhole_154 : decode cX8_isWhole 154 = .ok (.irem, 1) := do_70 DX8_isWhole_154
theorem dX8_isWhole_155 : decode cX8_isWhole 155 = .ok (.ifCond .ne 39, 3) := do_9a DX8_isWhole_155 (by decide +kernel)
theorem dX8_isWhole_158 : decode cX8_isWhole 158 = .ok (.aload 5, 2) := do_19 DX8_isWhole_158
theorem dX8_isWhole_160 : decode cX8_isWhole 160 = .ok (.iconst 1, 1) := do_04 DX8_isWhole_160
theorem dX8_isWhole_161 : decode cX8_isWhole 161 = .ok (.iaload, 1) := do_2e DX8_isWhole_161
theorem dX8_isWhole_162 : decode cX8_isWhole 162 = .ok (.aload 5, 2) := do_19 DX8_isWhole_162
theorem dX8_isWhole_164 : decode cX8_isWhole 164 = .ok (.iconst 4, 1) := do_07 DX8_isWhole_164
theorem dX8_isWhole_165 : decode cX8_isWhole 165 = .ok (.iaload, 1) := do_2e DX8_isWhole_165
theorem dX8_isWhole_166 : decode cX8_isWhole 166 = .ok (.invokestatic 196, 3) := do_b8 DX8_isWhole_166
theorem dX8_isWhole_169 : decode cX8_isWhole 169 = .ok (.imul, 1) := do_68 DX8_isWhole_169
theorem dX8_isWhole_170 : decode cX8_isWhole 170 = .ok (.aload 5, 2) := do_19 DX8_isWhole_170
theorem dX8_isWhole_172 : decode cX8_isWhole 172 = .ok (.iconst 2, 1) := do_05 DX8_isWhole_172
theorem dX8_isWhole_173 : decode cX8_isWhole 173 = .ok (.iaload, 1) := do_2e DX8_isWhole_173
theorem dX8_isWhole_174 : decode cX8_isWhole 174 = .ok (.aload 5, 2) := do_19 DX8_isWhole_174
theorem dX8_isWhole_176 : decode cX8_isWhole 176 = .ok (.iconst 3, 1) := do_06 DX8_isWhole_176
theorem dX8_isWhole_177 : decode cX8_isWhole 177 = .ok (.iaload, 1) := do_2e DX8_isWhole_177
theorem dX8_isWhole_178 : decode cX8_isWhole 178 = .ok (.invokestatic 196, 3) := do_b8 DX8_isWhole_178
theorem dX8_isWhole_181 : decode cX8_isWhole 181 = .ok (.imul, 1) := do_68 DX8_isWhole_181
theorem dX8_isWhole_182 : decode cX8_isWhole 182 = .ok (.iadd, 1) := do_60 DX8_isWhole_182
theorem dX8_isWhole_183 : decode cX8_isWhole 183 = .ok (.aload 5, 2) := do_19 DX8_isWhole_183
theorem dX8_isWhole_185 : decode cX8_isWhole 185 = .ok (.iconst 0, 1) := do_03 DX8_isWhole_185
theorem dX8_isWhole_186 : decode cX8_isWhole 186 = .ok (.iaload, 1) := do_2e DX8_isWhole_186
theorem dX8_isWhole_187 : decode cX8_isWhole 187 = .ok (.if_icmp .ne 7, 3) := do_a0 DX8_isWhole_187 (by decide +kernel)
theorem dX8_isWhole_190 : decode cX8_isWhole 190 = .ok (.iconst 1, 1) := do_04 DX8_isWhole_190
theorem dX8_isWhole_191 : decode cX8_isWhole 191 = .ok (.goto 4, 3) := do_a7 DX8_isWhole_191 (by decide +kernel)
theorem dX8_isWhole_194 : decode cX8_isWhole 194 = .ok (.iconst 0, 1) := do_03 DX8_isWhole_194
theorem dX8_isWhole_195 : decode cX8_isWhole 195 = .ok (.iand, 1) := do_7e DX8_isWhole_195
theorem dX8_isWhole_196 : decode cX8_isWhole 196 = .ok (.istore_n 1, 1) := do_3c DX8_isWhole_196
theorem dX8_isWhole_197 : decode cX8_isWhole 197 = .ok (.iinc 2 1, 3) := do_84 DX8_isWhole_197
theorem dX8_isWhole_200 : decode cX8_isWhole 200 = .ok (.goto (-196), 3) := do_a7 DX8_isWhole_200 (by decide +kernel)
theorem dX8_isWhole_203 : decode cX8_isWhole 203 = .ok (.iload_n 1, 1) := do_1b DX8_isWhole_203
theorem dX8_isWhole_204 : decode cX8_isWhole 204 = .ok (.ireturn, 1) := do_ac DX8_isWhole_204
def TX8_isSound_10 : List UInt8 := []
def TX8_isSound_9 : List UInt8 := 172 :: TX8_isSound_10
def TX8_isSound_6 : List UInt8 := 182 :: 1 :: 24 :: TX8_isSound_9
def TX8_isSound_5 : List UInt8 := 42 :: TX8_isSound_6
def TX8_isSound_2 : List UInt8 := 181 :: 0 :: 41 :: TX8_isSound_5
def TX8_isSound_1 : List UInt8 := 3 :: TX8_isSound_2
def TX8_isSound_0 : List UInt8 := 42 :: TX8_isSound_1
theorem DX8_isSound_0 : cX8_isSound.data.toList.drop 0 = TX8_isSound_0 := by decide +kernel
theorem DX8_isSound_1 : cX8_isSound.data.toList.drop 1 = TX8_isSound_1 := dr1 DX8_isSound_0
theorem DX8_isSound_2 : cX8_isSound.data.toList.drop 2 = TX8_isSound_2 := dr1 DX8_isSound_1
theorem DX8_isSound_5 : cX8_isSound.data.toList.drop 5 = TX8_isSound_5 := dr3 DX8_isSound_2
theorem DX8_isSound_6 : cX8_isSound.data.toList.drop 6 = TX8_isSound_6 := dr1 DX8_isSound_5
theorem DX8_isSound_9 : cX8_isSound.data.toList.drop 9 = TX8_isSound_9 := dr3 DX8_isSound_6
theorem dX8_isSound_0 : decode cX8_isSound 0 = .ok (.aload_n 0, 1) := do_2a DX8_isSound_0
theorem dX8_isSound_1 : decode cX8_isSound 1 = .ok (.iconst 0, 1) := do_03 DX8_isSound_1
theorem dX8_isSound_2 : decode cX8_isSound 2 = .ok (.putfield 41, 3) := do_b5 DX8_isSound_2
theorem dX8_isSound_5 : decode cX8_isSound 5 = .ok (.aload_n 0, 1) := do_2a DX8_isSound_5
theorem dX8_isSound_6 : decode cX8_isSound 6 = .ok (.invokevirtual 280, 3) := do_b6 DX8_isSound_6
theorem dX8_isSound_9 : decode cX8_isSound 9 = .ok (.ireturn, 1) := do_ac DX8_isSound_9
def TX8_digest_308 : List UInt8 := []
def TX8_digest_307 : List UInt8 := 173 :: TX8_digest_308
def TX8_digest_306 : List UInt8 := 97 :: TX8_digest_307
def TX8_digest_305 : List UInt8 := 133 :: TX8_digest_306
def TX8_digest_304 : List UInt8 := 3 :: TX8_digest_305
def TX8_digest_301 : List UInt8 := 167 :: 0 :: 4 :: TX8_digest_304
def TX8_digest_300 : List UInt8 := 4 :: TX8_digest_301
def TX8_digest_297 : List UInt8 := 153 :: 0 :: 7 :: TX8_digest_300
def TX8_digest_294 : List UInt8 := 182 :: 1 :: 24 :: TX8_digest_297
def TX8_digest_293 : List UInt8 := 42 :: TX8_digest_294
def TX8_digest_292 : List UInt8 := 105 :: TX8_digest_293
def TX8_digest_289 : List UInt8 := 20 :: 1 :: 30 :: TX8_digest_292
def TX8_digest_288 : List UInt8 := 31 :: TX8_digest_289
def TX8_digest_285 : List UInt8 := 167 :: 255 :: 234 :: TX8_digest_288
def TX8_digest_282 : List UInt8 := 132 :: 3 :: 1 :: TX8_digest_285
def TX8_digest_281 : List UInt8 := 64 :: TX8_digest_282
def TX8_digest_280 : List UInt8 := 97 :: TX8_digest_281
def TX8_digest_279 : List UInt8 := 133 :: TX8_digest_280
def TX8_digest_278 : List UInt8 := 46 :: TX8_digest_279
def TX8_digest_277 : List UInt8 := 29 :: TX8_digest_278
def TX8_digest_274 : List UInt8 := 180 :: 0 :: 38 :: TX8_digest_277
def TX8_digest_273 : List UInt8 := 42 :: TX8_digest_274
def TX8_digest_272 : List UInt8 := 105 :: TX8_digest_273
def TX8_digest_269 : List UInt8 := 20 :: 1 :: 30 :: TX8_digest_272
def TX8_digest_268 : List UInt8 := 31 :: TX8_digest_269
def TX8_digest_265 : List UInt8 := 162 :: 0 :: 23 :: TX8_digest_268
def TX8_digest_264 : List UInt8 := 8 :: TX8_digest_265
def TX8_digest_263 : List UInt8 := 29 :: TX8_digest_264
def TX8_digest_262 : List UInt8 := 62 :: TX8_digest_263
def TX8_digest_261 : List UInt8 := 3 :: TX8_digest_262
def TX8_digest_258 : List UInt8 := 167 :: 255 :: 217 :: TX8_digest_261
def TX8_digest_255 : List UInt8 := 132 :: 3 :: 1 :: TX8_digest_258
def TX8_digest_252 : List UInt8 := 167 :: 255 :: 231 :: TX8_digest_255
def TX8_digest_249 : List UInt8 := 132 :: 4 :: 1 :: TX8_digest_252
def TX8_digest_248 : List UInt8 := 64 :: TX8_digest_249
def TX8_digest_247 : List UInt8 := 97 :: TX8_digest_248
def TX8_digest_246 : List UInt8 := 133 :: TX8_digest_247
def TX8_digest_243 : List UInt8 := 182 :: 1 :: 15 :: TX8_digest_246
def TX8_digest_241 : List UInt8 := 21 :: 4 :: TX8_digest_243
def TX8_digest_240 : List UInt8 := 29 :: TX8_digest_241
def TX8_digest_239 : List UInt8 := 42 :: TX8_digest_240
def TX8_digest_238 : List UInt8 := 105 :: TX8_digest_239
def TX8_digest_235 : List UInt8 := 20 :: 1 :: 30 :: TX8_digest_238
def TX8_digest_234 : List UInt8 := 31 :: TX8_digest_235
def TX8_digest_231 : List UInt8 := 162 :: 0 :: 24 :: TX8_digest_234
def TX8_digest_229 : List UInt8 := 16 :: 8 :: TX8_digest_231
def TX8_digest_227 : List UInt8 := 21 :: 4 :: TX8_digest_229
def TX8_digest_225 : List UInt8 := 54 :: 4 :: TX8_digest_227
def TX8_digest_224 : List UInt8 := 3 :: TX8_digest_225
def TX8_digest_221 : List UInt8 := 162 :: 0 :: 40 :: TX8_digest_224
def TX8_digest_220 : List UInt8 := 6 :: TX8_digest_221
def TX8_digest_219 : List UInt8 := 29 :: TX8_digest_220
def TX8_digest_218 : List UInt8 := 62 :: TX8_digest_219
def TX8_digest_217 : List UInt8 := 3 :: TX8_digest_218
def TX8_digest_214 : List UInt8 := 167 :: 255 :: 170 :: TX8_digest_217
def TX8_digest_211 : List UInt8 := 132 :: 3 :: 1 :: TX8_digest_214
def TX8_digest_210 : List UInt8 := 64 :: TX8_digest_211
def TX8_digest_209 : List UInt8 := 97 :: TX8_digest_210
def TX8_digest_208 : List UInt8 := 133 :: TX8_digest_209
def TX8_digest_205 : List UInt8 := 184 :: 0 :: 121 :: TX8_digest_208
def TX8_digest_204 : List UInt8 := 3 :: TX8_digest_205
def TX8_digest_203 : List UInt8 := 50 :: TX8_digest_204
def TX8_digest_202 : List UInt8 := 29 :: TX8_digest_203
def TX8_digest_199 : List UInt8 := 180 :: 0 :: 28 :: TX8_digest_202
def TX8_digest_198 : List UInt8 := 42 :: TX8_digest_199
def TX8_digest_197 : List UInt8 := 105 :: TX8_digest_198
def TX8_digest_194 : List UInt8 := 20 :: 1 :: 30 :: TX8_digest_197
def TX8_digest_193 : List UInt8 := 97 :: TX8_digest_194
def TX8_digest_192 : List UInt8 := 133 :: TX8_digest_193
def TX8_digest_189 : List UInt8 := 184 :: 0 :: 121 :: TX8_digest_192
def TX8_digest_188 : List UInt8 := 3 :: TX8_digest_189
def TX8_digest_187 : List UInt8 := 50 :: TX8_digest_188
def TX8_digest_186 : List UInt8 := 29 :: TX8_digest_187
def TX8_digest_183 : List UInt8 := 180 :: 0 :: 24 :: TX8_digest_186
def TX8_digest_182 : List UInt8 := 42 :: TX8_digest_183
def TX8_digest_181 : List UInt8 := 105 :: TX8_digest_182
def TX8_digest_178 : List UInt8 := 20 :: 1 :: 30 :: TX8_digest_181
def TX8_digest_177 : List UInt8 := 31 :: TX8_digest_178
def TX8_digest_176 : List UInt8 := 64 :: TX8_digest_177
def TX8_digest_175 : List UInt8 := 97 :: TX8_digest_176
def TX8_digest_172 : List UInt8 := 184 :: 0 :: 181 :: TX8_digest_175
def TX8_digest_171 : List UInt8 := 50 :: TX8_digest_172
def TX8_digest_170 : List UInt8 := 29 :: TX8_digest_171
def TX8_digest_167 : List UInt8 := 180 :: 0 :: 28 :: TX8_digest_170
def TX8_digest_166 : List UInt8 := 42 :: TX8_digest_167
def TX8_digest_165 : List UInt8 := 105 :: TX8_digest_166
def TX8_digest_162 : List UInt8 := 20 :: 1 :: 30 :: TX8_digest_165
def TX8_digest_161 : List UInt8 := 97 :: TX8_digest_162
def TX8_digest_158 : List UInt8 := 184 :: 0 :: 181 :: TX8_digest_161
def TX8_digest_157 : List UInt8 := 50 :: TX8_digest_158
def TX8_digest_156 : List UInt8 := 29 :: TX8_digest_157
def TX8_digest_153 : List UInt8 := 180 :: 0 :: 24 :: TX8_digest_156
def TX8_digest_152 : List UInt8 := 42 :: TX8_digest_153
def TX8_digest_151 : List UInt8 := 105 :: TX8_digest_152
def TX8_digest_148 : List UInt8 := 20 :: 1 :: 30 :: TX8_digest_151
def TX8_digest_147 : List UInt8 := 31 :: TX8_digest_148
def TX8_digest_146 : List UInt8 := 64 :: TX8_digest_147
def TX8_digest_145 : List UInt8 := 97 :: TX8_digest_146
def TX8_digest_144 : List UInt8 := 133 :: TX8_digest_145
def TX8_digest_143 : List UInt8 := 46 :: TX8_digest_144
def TX8_digest_142 : List UInt8 := 29 :: TX8_digest_143
def TX8_digest_139 : List UInt8 := 180 :: 0 :: 16 :: TX8_digest_142
def TX8_digest_138 : List UInt8 := 42 :: TX8_digest_139
def TX8_digest_137 : List UInt8 := 105 :: TX8_digest_138
def TX8_digest_134 : List UInt8 := 20 :: 1 :: 30 :: TX8_digest_137
def TX8_digest_133 : List UInt8 := 31 :: TX8_digest_134
def TX8_digest_130 : List UInt8 := 162 :: 0 :: 87 :: TX8_digest_133
def TX8_digest_129 : List UInt8 := 6 :: TX8_digest_130
def TX8_digest_128 : List UInt8 := 29 :: TX8_digest_129
def TX8_digest_127 : List UInt8 := 62 :: TX8_digest_128
def TX8_digest_126 : List UInt8 := 3 :: TX8_digest_127
def TX8_digest_123 : List UInt8 := 167 :: 255 :: 144 :: TX8_digest_126
def TX8_digest_120 : List UInt8 := 132 :: 3 :: 1 :: TX8_digest_123
def TX8_digest_117 : List UInt8 := 167 :: 255 :: 226 :: TX8_digest_120
def TX8_digest_114 : List UInt8 := 132 :: 5 :: 1 :: TX8_digest_117
def TX8_digest_113 : List UInt8 := 64 :: TX8_digest_114
def TX8_digest_112 : List UInt8 := 97 :: TX8_digest_113
def TX8_digest_111 : List UInt8 := 133 :: TX8_digest_112
def TX8_digest_108 : List UInt8 := 184 :: 0 :: 192 :: TX8_digest_111
def TX8_digest_106 : List UInt8 := 21 :: 5 :: TX8_digest_108
def TX8_digest_104 : List UInt8 := 25 :: 4 :: TX8_digest_106
def TX8_digest_103 : List UInt8 := 46 :: TX8_digest_104
def TX8_digest_102 : List UInt8 := 29 :: TX8_digest_103
def TX8_digest_99 : List UInt8 := 180 :: 0 :: 9 :: TX8_digest_102
def TX8_digest_98 : List UInt8 := 42 :: TX8_digest_99
def TX8_digest_97 : List UInt8 := 105 :: TX8_digest_98
def TX8_digest_94 : List UInt8 := 20 :: 1 :: 30 :: TX8_digest_97
def TX8_digest_93 : List UInt8 := 31 :: TX8_digest_94
def TX8_digest_90 : List UInt8 := 162 :: 0 :: 30 :: TX8_digest_93
def TX8_digest_89 : List UInt8 := 6 :: TX8_digest_90
def TX8_digest_87 : List UInt8 := 21 :: 5 :: TX8_digest_89
def TX8_digest_85 : List UInt8 := 54 :: 5 :: TX8_digest_87
def TX8_digest_84 : List UInt8 := 4 :: TX8_digest_85
def TX8_digest_81 : List UInt8 := 167 :: 255 :: 232 :: TX8_digest_84
def TX8_digest_78 : List UInt8 := 132 :: 5 :: 1 :: TX8_digest_81
def TX8_digest_77 : List UInt8 := 64 :: TX8_digest_78
def TX8_digest_76 : List UInt8 := 97 :: TX8_digest_77
def TX8_digest_73 : List UInt8 := 184 :: 0 :: 181 :: TX8_digest_76
def TX8_digest_72 : List UInt8 := 50 :: TX8_digest_73
def TX8_digest_70 : List UInt8 := 21 :: 5 :: TX8_digest_72
def TX8_digest_68 : List UInt8 := 25 :: 4 :: TX8_digest_70
def TX8_digest_67 : List UInt8 := 105 :: TX8_digest_68
def TX8_digest_64 : List UInt8 := 20 :: 1 :: 30 :: TX8_digest_67
def TX8_digest_63 : List UInt8 := 31 :: TX8_digest_64
def TX8_digest_60 : List UInt8 := 162 :: 0 :: 24 :: TX8_digest_63
def TX8_digest_59 : List UInt8 := 7 :: TX8_digest_60
def TX8_digest_57 : List UInt8 := 21 :: 5 :: TX8_digest_59
def TX8_digest_55 : List UInt8 := 54 :: 5 :: TX8_digest_57
def TX8_digest_54 : List UInt8 := 3 :: TX8_digest_55
def TX8_digest_52 : List UInt8 := 58 :: 4 :: TX8_digest_54
def TX8_digest_49 : List UInt8 := 182 :: 0 :: 167 :: TX8_digest_52
def TX8_digest_48 : List UInt8 := 29 :: TX8_digest_49
def TX8_digest_47 : List UInt8 := 42 :: TX8_digest_48
def TX8_digest_44 : List UInt8 := 167 :: 255 :: 231 :: TX8_digest_47
def TX8_digest_41 : List UInt8 := 132 :: 4 :: 1 :: TX8_digest_44
def TX8_digest_40 : List UInt8 := 64 :: TX8_digest_41
def TX8_digest_39 : List UInt8 := 97 :: TX8_digest_40
def TX8_digest_38 : List UInt8 := 133 :: TX8_digest_39
def TX8_digest_35 : List UInt8 := 182 :: 0 :: 162 :: TX8_digest_38
def TX8_digest_33 : List UInt8 := 21 :: 4 :: TX8_digest_35
def TX8_digest_32 : List UInt8 := 29 :: TX8_digest_33
def TX8_digest_31 : List UInt8 := 42 :: TX8_digest_32
def TX8_digest_30 : List UInt8 := 105 :: TX8_digest_31
def TX8_digest_27 : List UInt8 := 20 :: 1 :: 30 :: TX8_digest_30
def TX8_digest_26 : List UInt8 := 31 :: TX8_digest_27
def TX8_digest_23 : List UInt8 := 162 :: 0 :: 24 :: TX8_digest_26
def TX8_digest_21 : List UInt8 := 16 :: 6 :: TX8_digest_23
def TX8_digest_19 : List UInt8 := 21 :: 4 :: TX8_digest_21
def TX8_digest_17 : List UInt8 := 54 :: 4 :: TX8_digest_19
def TX8_digest_16 : List UInt8 := 3 :: TX8_digest_17
def TX8_digest_13 : List UInt8 := 162 :: 0 :: 113 :: TX8_digest_16
def TX8_digest_12 : List UInt8 := 6 :: TX8_digest_13
def TX8_digest_11 : List UInt8 := 29 :: TX8_digest_12
def TX8_digest_10 : List UInt8 := 62 :: TX8_digest_11
def TX8_digest_9 : List UInt8 := 3 :: TX8_digest_10
def TX8_digest_8 : List UInt8 := 64 :: TX8_digest_9
def TX8_digest_5 : List UInt8 := 20 :: 1 :: 28 :: TX8_digest_8
def TX8_digest_2 : List UInt8 := 181 :: 0 :: 41 :: TX8_digest_5
def TX8_digest_1 : List UInt8 := 3 :: TX8_digest_2
def TX8_digest_0 : List UInt8 := 42 :: TX8_digest_1
theorem DX8_digest_0 : cX8_digest.data.toList.drop 0 = TX8_digest_0 := by decide +kernel
theorem DX8_digest_1 : cX8_digest.data.toList.drop 1 = TX8_digest_1 := dr1 DX8_digest_0
theorem DX8_digest_2 : cX8_digest.data.toList.drop 2 = TX8_digest_2 := dr1 DX8_digest_1
theorem DX8_digest_5 : cX8_digest.data.toList.drop 5 = TX8_digest_5 := dr3 DX8_digest_2
theorem DX8_digest_8 : cX8_digest.data.toList.drop 8 = TX8_digest_8 := dr3 DX8_digest_5
theorem DX8_digest_9 : cX8_digest.data.toList.drop 9 = TX8_digest_9 := dr1 DX8_digest_8
theorem DX8_digest_10 : cX8_digest.data.toList.drop 10 = TX8_digest_10 := dr1 DX8_digest_9
theorem DX8_digest_11 : cX8_digest.data.toList.drop 11 = TX8_digest_11 := dr1 DX8_digest_10
theorem DX8_digest_12 : cX8_digest.data.toList.drop 12 = TX8_digest_12 := dr1 DX8_digest_11
theorem DX8_digest_13 : cX8_digest.data.toList.drop 13 = TX8_digest_13 := dr1 DX8_digest_12
theorem DX8_digest_16 : cX8_digest.data.toList.drop 16 = TX8_digest_16 := dr3 DX8_digest_13
theorem DX8_digest_17 : cX8_digest.data.toList.drop 17 = TX8_digest_17 := dr1 DX8_digest_16
theorem DX8_digest_19 : cX8_digest.data.toList.drop 19 = TX8_digest_19 := dr2 DX8_digest_17
theorem DX8_digest_21 : cX8_digest.data.toList.drop 21 = TX8_digest_21 := dr2 DX8_digest_19
theorem DX8_digest_23 : cX8_digest.data.toList.drop 23 = TX8_digest_23 := dr2 DX8_digest_21
theorem DX8_digest_26 : cX8_digest.data.toList.drop 26 = TX8_digest_26 := dr3 DX8_digest_23
theorem DX8_digest_27 : cX8_digest.data.toList.drop 27 = TX8_digest_27 := dr1 DX8_digest_26
theorem DX8_digest_30 : cX8_digest.data.toList.drop 30 = TX8_digest_30 := dr3 DX8_digest_27
theorem DX8_digest_31 : cX8_digest.data.toList.drop 31 = TX8_digest_31 := dr1 DX8_digest_30
theorem DX8_digest_32 : cX8_digest.data.toList.drop 32 = TX8_digest_32 := dr1 DX8_digest_31
theorem DX8_digest_33 : cX8_digest.data.toList.drop 33 = TX8_digest_33 := dr1 DX8_digest_32
theorem DX8_digest_35 : cX8_digest.data.toList.drop 35 = TX8_digest_35 := dr2 DX8_digest_33
theorem DX8_digest_38 : cX8_digest.data.toList.drop 38 = TX8_digest_38 := dr3 DX8_digest_35
theorem DX8_digest_39 : cX8_digest.data.toList.drop 39 = TX8_digest_39 := dr1 DX8_digest_38
theorem DX8_digest_40 : cX8_digest.data.toList.drop 40 = TX8_digest_40 := dr1 DX8_digest_39
theorem DX8_digest_41 : cX8_digest.data.toList.drop 41 = TX8_digest_41 := dr1 DX8_digest_40
theorem DX8_digest_44 : cX8_digest.data.toList.drop 44 = TX8_digest_44 := dr3 DX8_digest_41
theorem DX8_digest_47 : cX8_digest.data.toList.drop 47 = TX8_digest_47 := dr3 DX8_digest_44
theorem DX8_digest_48 : cX8_digest.data.toList.drop 48 = TX8_digest_48 := dr1 DX8_digest_47
theorem DX8_digest_49 : cX8_digest.data.toList.drop 49 = TX8_digest_49 := dr1 DX8_digest_48
theorem DX8_digest_52 : cX8_digest.data.toList.drop 52 = TX8_digest_52 := dr3 DX8_digest_49
theorem DX8_digest_54 : cX8_digest.data.toList.drop 54 = TX8_digest_54 := dr2 DX8_digest_52
theorem DX8_digest_55 : cX8_digest.data.toList.drop 55 = TX8_digest_55 := dr1 DX8_digest_54
theorem DX8_digest_57 : cX8_digest.data.toList.drop 57 = TX8_digest_57 := dr2 DX8_digest_55
theorem DX8_digest_59 : cX8_digest.data.toList.drop 59 = TX8_digest_59 := dr2 DX8_digest_57
theorem DX8_digest_60 : cX8_digest.data.toList.drop 60 = TX8_digest_60 := dr1 DX8_digest_59
theorem DX8_digest_63 : cX8_digest.data.toList.drop 63 = TX8_digest_63 := dr3 DX8_digest_60
theorem DX8_digest_64 : cX8_digest.data.toList.drop 64 = TX8_digest_64 := dr1 DX8_digest_63
theorem DX8_digest_67 : cX8_digest.data.toList.drop 67 = TX8_digest_67 := dr3 DX8_digest_64
theorem DX8_digest_68 : cX8_digest.data.toList.drop 68 = TX8_digest_68 := dr1 DX8_digest_67
theorem DX8_digest_70 : cX8_digest.data.toList.drop 70 = TX8_digest_70 := dr2 DX8_digest_68
theorem DX8_digest_72 : cX8_digest.data.toList.drop 72 = TX8_digest_72 := dr2 DX8_digest_70
theorem DX8_digest_73 : cX8_digest.data.toList.drop 73 = TX8_digest_73 := dr1 DX8_digest_72
theorem DX8_digest_76 : cX8_digest.data.toList.drop 76 = TX8_digest_76 := dr3 DX8_digest_73
theorem DX8_digest_77 : cX8_digest.data.toList.drop 77 = TX8_digest_77 := dr1 DX8_digest_76
theorem DX8_digest_78 : cX8_digest.data.toList.drop 78 = TX8_digest_78 := dr1 DX8_digest_77
theorem DX8_digest_81 : cX8_digest.data.toList.drop 81 = TX8_digest_81 := dr3 DX8_digest_78
theorem DX8_digest_84 : cX8_digest.data.toList.drop 84 = TX8_digest_84 := dr3 DX8_digest_81
theorem DX8_digest_85 : cX8_digest.data.toList.drop 85 = TX8_digest_85 := dr1 DX8_digest_84
theorem DX8_digest_87 : cX8_digest.data.toList.drop 87 = TX8_digest_87 := dr2 DX8_digest_85
theorem DX8_digest_89 : cX8_digest.data.toList.drop 89 = TX8_digest_89 := dr2 DX8_digest_87
theorem DX8_digest_90 : cX8_digest.data.toList.drop 90 = TX8_digest_90 := dr1 DX8_digest_89
theorem DX8_digest_93 : cX8_digest.data.toList.drop 93 = TX8_digest_93 := dr3 DX8_digest_90
theorem DX8_digest_94 : cX8_digest.data.toList.drop 94 = TX8_digest_94 := dr1 DX8_digest_93
theorem DX8_digest_97 : cX8_digest.data.toList.drop 97 = TX8_digest_97 := dr3 DX8_digest_94
theorem DX8_digest_98 : cX8_digest.data.toList.drop 98 = TX8_digest_98 := dr1 DX8_digest_97
theorem DX8_digest_99 : cX8_digest.data.toList.drop 99 = TX8_digest_99 := dr1 DX8_digest_98
theorem DX8_digest_102 : cX8_digest.data.toList.drop 102 = TX8_digest_102 := dr3 DX8_digest_99
theorem DX8_digest_103 : cX8_digest.data.toList.drop 103 = TX8_digest_103 := dr1 DX8_digest_102
theorem DX8_digest_104 : cX8_digest.data.toList.drop 104 = TX8_digest_104 := dr1 DX8_digest_103
theorem DX8_digest_106 : cX8_digest.data.toList.drop 106 = TX8_digest_106 := dr2 DX8_digest_104
theorem DX8_digest_108 : cX8_digest.data.toList.drop 108 = TX8_digest_108 := dr2 DX8_digest_106
theorem DX8_digest_111 : cX8_digest.data.toList.drop 111 = TX8_digest_111 := dr3 DX8_digest_108
theorem DX8_digest_112 : cX8_digest.data.toList.drop 112 = TX8_digest_112 := dr1 DX8_digest_111
theorem DX8_digest_113 : cX8_digest.data.toList.drop 113 = TX8_digest_113 := dr1 DX8_digest_112
theorem DX8_digest_114 : cX8_digest.data.toList.drop 114 = TX8_digest_114 := dr1 DX8_digest_113
theorem DX8_digest_117 : cX8_digest.data.toList.drop 117 = TX8_digest_117 := dr3 DX8_digest_114
theorem DX8_digest_120 : cX8_digest.data.toList.drop 120 = TX8_digest_120 := dr3 DX8_digest_117
theorem DX8_digest_123 : cX8_digest.data.toList.drop 123 = TX8_digest_123 := dr3 DX8_digest_120
theorem DX8_digest_126 : cX8_digest.data.toList.drop 126 = TX8_digest_126 := dr3 DX8_digest_123
theorem DX8_digest_127 : cX8_digest.data.toList.drop 127 = TX8_digest_127 := dr1 DX8_digest_126
theorem DX8_digest_128 : cX8_digest.data.toList.drop 128 = TX8_digest_128 := dr1 DX8_digest_127
theorem DX8_digest_129 : cX8_digest.data.toList.drop 129 = TX8_digest_129 := dr1 DX8_digest_128
theorem DX8_digest_130 : cX8_digest.data.toList.drop 130 = TX8_digest_130 := dr1 DX8_digest_129
theorem DX8_digest_133 : cX8_digest.data.toList.drop 133 = TX8_digest_133 := dr3 DX8_digest_130
theorem DX8_digest_134 : cX8_digest.data.toList.drop 134 = TX8_digest_134 := dr1 DX8_digest_133
theorem DX8_digest_137 : cX8_digest.data.toList.drop 137 = TX8_digest_137 := dr3 DX8_digest_134
theorem DX8_digest_138 : cX8_digest.data.toList.drop 138 = TX8_digest_138 := dr1 DX8_digest_137
theorem DX8_digest_139 : cX8_digest.data.toList.drop 139 = TX8_digest_139 := dr1 DX8_digest_138
theorem DX8_digest_142 : cX8_digest.data.toList.drop 142 = TX8_digest_142 := dr3 DX8_digest_139
theorem DX8_digest_143 : cX8_digest.data.toList.drop 143 = TX8_digest_143 := dr1 DX8_digest_142
theorem DX8_digest_144 : cX8_digest.data.toList.drop 144 = TX8_digest_144 := dr1 DX8_digest_143
theorem DX8_digest_145 : cX8_digest.data.toList.drop 145 = TX8_digest_145 := dr1 DX8_digest_144
theorem DX8_digest_146 : cX8_digest.data.toList.drop 146 = TX8_digest_146 := dr1 DX8_digest_145
theorem DX8_digest_147 : cX8_digest.data.toList.drop 147 = TX8_digest_147 := dr1 DX8_digest_146
theorem DX8_digest_148 : cX8_digest.data.toList.drop 148 = TX8_digest_148 := dr1 DX8_digest_147
theorem DX8_digest_151 : cX8_digest.data.toList.drop 151 = TX8_digest_151 := dr3 DX8_digest_148
theorem DX8_digest_152 : cX8_digest.data.toList.drop 152 = TX8_digest_152 := dr1 DX8_digest_151
theorem DX8_digest_153 : cX8_digest.data.toList.drop 153 = TX8_digest_153 := dr1 DX8_digest_152
theorem DX8_digest_156 : cX8_digest.data.toList.drop 156 = TX8_digest_156 := dr3 DX8_digest_153
theorem DX8_digest_157 : cX8_digest.data.toList.drop 157 = TX8_digest_157 := dr1 DX8_digest_156
theorem DX8_digest_158 : cX8_digest.data.toList.drop 158 = TX8_digest_158 := dr1 DX8_digest_157
theorem DX8_digest_161 : cX8_digest.data.toList.drop 161 = TX8_digest_161 := dr3 DX8_digest_158
theorem DX8_digest_162 : cX8_digest.data.toList.drop 162 = TX8_digest_162 := dr1 DX8_digest_161
theorem DX8_digest_165 : cX8_digest.data.toList.drop 165 = TX8_digest_165 := dr3 DX8_digest_162
theorem DX8_digest_166 : cX8_digest.data.toList.drop 166 = TX8_digest_166 := dr1 DX8_digest_165
theorem DX8_digest_167 : cX8_digest.data.toList.drop 167 = TX8_digest_167 := dr1 DX8_digest_166
theorem DX8_digest_170 : cX8_digest.data.toList.drop 170 = TX8_digest_170 := dr3 DX8_digest_167
theorem DX8_digest_171 : cX8_digest.data.toList.drop 171 = TX8_digest_171 := dr1 DX8_digest_170
theorem DX8_digest_172 : cX8_digest.data.toList.drop 172 = TX8_digest_172 := dr1 DX8_digest_171
theorem DX8_digest_175 : cX8_digest.data.toList.drop 175 = TX8_digest_175 := dr3 DX8_digest_172
theorem DX8_digest_176 : cX8_digest.data.toList.drop 176 = TX8_digest_176 := dr1 DX8_digest_175
theorem DX8_digest_177 : cX8_digest.data.toList.drop 177 = TX8_digest_177 := dr1 DX8_digest_176
theorem DX8_digest_178 : cX8_digest.data.toList.drop 178 = TX8_digest_178 := dr1 DX8_digest_177
theorem DX8_digest_181 : cX8_digest.data.toList.drop 181 = TX8_digest_181 := dr3 DX8_digest_178
theorem DX8_digest_182 : cX8_digest.data.toList.drop 182 = TX8_digest_182 := dr1 DX8_digest_181
theorem DX8_digest_183 : cX8_digest.data.toList.drop 183 = TX8_digest_183 := dr1 DX8_digest_182
theorem DX8_digest_186 : cX8_digest.data.toList.drop 186 = TX8_digest_186 := dr3 DX8_digest_183
theorem DX8_digest_187 : cX8_digest.data.toList.drop 187 = TX8_digest_187 := dr1 DX8_digest_186
theorem DX8_digest_188 : cX8_digest.data.toList.drop 188 = TX8_digest_188 := dr1 DX8_digest_187
theorem DX8_digest_189 : cX8_digest.data.toList.drop 189 = TX8_digest_189 := dr1 DX8_digest_188
theorem DX8_digest_192 : cX8_digest.data.toList.drop 192 = TX8_digest_192 := dr3 DX8_digest_189
theorem DX8_digest_193 : cX8_digest.data.toList.drop 193 = TX8_digest_193 := dr1 DX8_digest_192
theorem DX8_digest_194 : cX8_digest.data.toList.drop 194 = TX8_digest_194 := dr1 DX8_digest_193
theorem DX8_digest_197 : cX8_digest.data.toList.drop 197 = TX8_digest_197 := dr3 DX8_digest_194
theorem DX8_digest_198 : cX8_digest.data.toList.drop 198 = TX8_digest_198 := dr1 DX8_digest_197
theorem DX8_digest_199 : cX8_digest.data.toList.drop 199 = TX8_digest_199 := dr1 DX8_digest_198
theorem DX8_digest_202 : cX8_digest.data.toList.drop 202 = TX8_digest_202 := dr3 DX8_digest_199
theorem DX8_digest_203 : cX8_digest.data.toList.drop 203 = TX8_digest_203 := dr1 DX8_digest_202
theorem DX8_digest_204 : cX8_digest.data.toList.drop 204 = TX8_digest_204 := dr1 DX8_digest_203
theorem DX8_digest_205 : cX8_digest.data.toList.drop 205 = TX8_digest_205 := dr1 DX8_digest_204
theorem DX8_digest_208 : cX8_digest.data.toList.drop 208 = TX8_digest_208 := dr3 DX8_digest_205
theorem DX8_digest_209 : cX8_digest.data.toList.drop 209 = TX8_digest_209 := dr1 DX8_digest_208
theorem DX8_digest_210 : cX8_digest.data.toList.drop 210 = TX8_digest_210 := dr1 DX8_digest_209
theorem DX8_digest_211 : cX8_digest.data.toList.drop 211 = TX8_digest_211 := dr1 DX8_digest_210
theorem DX8_digest_214 : cX8_digest.data.toList.drop 214 = TX8_digest_214 := dr3 DX8_digest_211
theorem DX8_digest_217 : cX8_digest.data.toList.drop 217 = TX8_digest_217 := dr3 DX8_digest_214
theorem DX8_digest_218 : cX8_digest.data.toList.drop 218 = TX8_digest_218 := dr1 DX8_digest_217
theorem DX8_digest_219 : cX8_digest.data.toList.drop 219 = TX8_digest_219 := dr1 DX8_digest_218
theorem DX8_digest_220 : cX8_digest.data.toList.drop 220 = TX8_digest_220 := dr1 DX8_digest_219
theorem DX8_digest_221 : cX8_digest.data.toList.drop 221 = TX8_digest_221 := dr1 DX8_digest_220
theorem DX8_digest_224 : cX8_digest.data.toList.drop 224 = TX8_digest_224 := dr3 DX8_digest_221
theorem DX8_digest_225 : cX8_digest.data.toList.drop 225 = TX8_digest_225 := dr1 DX8_digest_224
theorem DX8_digest_227 : cX8_digest.data.toList.drop 227 = TX8_digest_227 := dr2 DX8_digest_225
theorem DX8_digest_229 : cX8_digest.data.toList.drop 229 = TX8_digest_229 := dr2 DX8_digest_227
theorem DX8_digest_231 : cX8_digest.data.toList.drop 231 = TX8_digest_231 := dr2 DX8_digest_229
theorem DX8_digest_234 : cX8_digest.data.toList.drop 234 = TX8_digest_234 := dr3 DX8_digest_231
theorem DX8_digest_235 : cX8_digest.data.toList.drop 235 = TX8_digest_235 := dr1 DX8_digest_234
theorem DX8_digest_238 : cX8_digest.data.toList.drop 238 = TX8_digest_238 := dr3 DX8_digest_235
theorem DX8_digest_239 : cX8_digest.data.toList.drop 239 = TX8_digest_239 := dr1 DX8_digest_238
theorem DX8_digest_240 : cX8_digest.data.toList.drop 240 = TX8_digest_240 := dr1 DX8_digest_239
theorem DX8_digest_241 : cX8_digest.data.toList.drop 241 = TX8_digest_241 := dr1 DX8_digest_240
theorem DX8_digest_243 : cX8_digest.data.toList.drop 243 = TX8_digest_243 := dr2 DX8_digest_241
theorem DX8_digest_246 : cX8_digest.data.toList.drop 246 = TX8_digest_246 := dr3 DX8_digest_243
theorem DX8_digest_247 : cX8_digest.data.toList.drop 247 = TX8_digest_247 := dr1 DX8_digest_246
theorem DX8_digest_248 : cX8_digest.data.toList.drop 248 = TX8_digest_248 := dr1 DX8_digest_247
theorem DX8_digest_249 : cX8_digest.data.toList.drop 249 = TX8_digest_249 := dr1 DX8_digest_248
theorem DX8_digest_252 : cX8_digest.data.toList.drop 252 = TX8_digest_252 := dr3 DX8_digest_249
theorem DX8_digest_255 : cX8_digest.data.toList.drop 255 = TX8_digest_255 := dr3 DX8_digest_252
theorem DX8_digest_258 : cX8_digest.data.toList.drop 258 = TX8_digest_258 := dr3 DX8_digest_255
theorem DX8_digest_261 : cX8_digest.data.toList.drop 261 = TX8_digest_261 := dr3 DX8_digest_258
theorem DX8_digest_262 : cX8_digest.data.toList.drop 262 = TX8_digest_262 := dr1 DX8_digest_261
theorem DX8_digest_263 : cX8_digest.data.toList.drop 263 = TX8_digest_263 := dr1 DX8_digest_262
theorem DX8_digest_264 : cX8_digest.data.toList.drop 264 = TX8_digest_264 := dr1 DX8_digest_263
theorem DX8_digest_265 : cX8_digest.data.toList.drop 265 = TX8_digest_265 := dr1 DX8_digest_264
theorem DX8_digest_268 : cX8_digest.data.toList.drop 268 = TX8_digest_268 := dr3 DX8_digest_265
theorem DX8_digest_269 : cX8_digest.data.toList.drop 269 = TX8_digest_269 := dr1 DX8_digest_268
theorem DX8_digest_272 : cX8_digest.data.toList.drop 272 = TX8_digest_272 := dr3 DX8_digest_269
theorem DX8_digest_273 : cX8_digest.data.toList.drop 273 = TX8_digest_273 := dr1 DX8_digest_272
theorem DX8_digest_274 : cX8_digest.data.toList.drop 274 = TX8_digest_274 := dr1 DX8_digest_273
theorem DX8_digest_277 : cX8_digest.data.toList.drop 277 = TX8_digest_277 := dr3 DX8_digest_274
theorem DX8_digest_278 : cX8_digest.data.toList.drop 278 = TX8_digest_278 := dr1 DX8_digest_277
theorem DX8_digest_279 : cX8_digest.data.toList.drop 279 = TX8_digest_279 := dr1 DX8_digest_278
theorem DX8_digest_280 : cX8_digest.data.toList.drop 280 = TX8_digest_280 := dr1 DX8_digest_279
theorem DX8_digest_281 : cX8_digest.data.toList.drop 281 = TX8_digest_281 := dr1 DX8_digest_280
theorem DX8_digest_282 : cX8_digest.data.toList.drop 282 = TX8_digest_282 := dr1 DX8_digest_281
theorem DX8_digest_285 : cX8_digest.data.toList.drop 285 = TX8_digest_285 := dr3 DX8_digest_282
theorem DX8_digest_288 : cX8_digest.data.toList.drop 288 = TX8_digest_288 := dr3 DX8_digest_285
theorem DX8_digest_289 : cX8_digest.data.toList.drop 289 = TX8_digest_289 := dr1 DX8_digest_288
theorem DX8_digest_292 : cX8_digest.data.toList.drop 292 = TX8_digest_292 := dr3 DX8_digest_289
theorem DX8_digest_293 : cX8_digest.data.toList.drop 293 = TX8_digest_293 := dr1 DX8_digest_292
theorem DX8_digest_294 : cX8_digest.data.toList.drop 294 = TX8_digest_294 := dr1 DX8_digest_293
theorem DX8_digest_297 : cX8_digest.data.toList.drop 297 = TX8_digest_297 := dr3 DX8_digest_294
theorem DX8_digest_300 : cX8_digest.data.toList.drop 300 = TX8_digest_300 := dr3 DX8_digest_297
theorem DX8_digest_301 : cX8_digest.data.toList.drop 301 = TX8_digest_301 := dr1 DX8_digest_300
theorem DX8_digest_304 : cX8_digest.data.toList.drop 304 = TX8_digest_304 := dr3 DX8_digest_301
theorem DX8_digest_305 : cX8_digest.data.toList.drop 305 = TX8_digest_305 := dr1 DX8_digest_304
theorem DX8_digest_306 : cX8_digest.data.toList.drop 306 = TX8_digest_306 := dr1 DX8_digest_305
theorem DX8_digest_307 : cX8_digest.data.toList.drop 307 = TX8_digest_307 := dr1 DX8_digest_306
theorem dX8_digest_0 : decode cX8_digest 0 = .ok (.aload_n 0, 1) := do_2a DX8_digest_0
theorem dX8_digest_1 : decode cX8_digest 1 = .ok (.iconst 0, 1) := do_03 DX8_digest_1
theorem dX8_digest_2 : decode cX8_digest 2 = .ok (.putfield 41, 3) := do_b5 DX8_digest_2
theorem dX8_digest_5 : decode cX8_digest 5 = .ok (.ldc2_w 284, 3) := by decide +kernel
theorem dX8_digest_8 : decode cX8_digest 8 = .ok (.lstore_n 1, 1) := do_40 DX8_digest_8
theorem dX8_digest_9 : decode cX8_digest 9 = .ok (.iconst 0, 1) := do_03 DX8_digest_9
theorem dX8_digest_10 : decode cX8_digest 10 = .ok (.istore_n 3, 1) := do_3e DX8_digest_10
theorem dX8_digest_11 : decode cX8_digest 11 = .ok (.iload_n 3, 1) := do_1d DX8_digest_11
theorem dX8_digest_12 : decode cX8_digest 12 = .ok (.iconst 3, 1) := do_06 DX8_digest_12
theorem dX8_digest_13 : decode cX8_digest 13 = .ok (.if_icmp .ge 113, 3) := do_a2 DX8_digest_13 (by decide +kernel)
theorem dX8_digest_16 : decode cX8_digest 16 = .ok (.iconst 0, 1) := do_03 DX8_digest_16
theorem dX8_digest_17 : decode cX8_digest 17 = .ok (.istore 4, 2) := do_36 DX8_digest_17
theorem dX8_digest_19 : decode cX8_digest 19 = .ok (.iload 4, 2) := do_15 DX8_digest_19
theorem dX8_digest_21 : decode cX8_digest 21 = .ok (.bipush 6, 2) := do_10 DX8_digest_21 (by decide +kernel)
theorem dX8_digest_23 : decode cX8_digest 23 = .ok (.if_icmp .ge 24, 3) := do_a2 DX8_digest_23 (by decide +kernel)
theorem dX8_digest_26 : decode cX8_digest 26 = .ok (.lload_n 1, 1) := do_1f DX8_digest_26
theorem dX8_digest_27 : decode cX8_digest 27 = .ok (.ldc2_w 286, 3) := by decide +kernel
theorem dX8_digest_30 : decode cX8_digest 30 = .ok (.lmul, 1) := do_69 DX8_digest_30
theorem dX8_digest_31 : decode cX8_digest 31 = .ok (.aload_n 0, 1) := do_2a DX8_digest_31
theorem dX8_digest_32 : decode cX8_digest 32 = .ok (.iload_n 3, 1) := do_1d DX8_digest_32
theorem dX8_digest_33 : decode cX8_digest 33 = .ok (.iload 4, 2) := do_15 DX8_digest_33
theorem dX8_digest_35 : decode cX8_digest 35 = .ok (.invokevirtual 162, 3) := do_b6 DX8_digest_35
theorem dX8_digest_38 : decode cX8_digest 38 = .ok (.i2l, 1) := do_85 DX8_digest_38
theorem dX8_digest_39 : decode cX8_digest 39 = .ok (.ladd, 1) := do_61 DX8_digest_39
theorem dX8_digest_40 : decode cX8_digest 40 = .ok (.lstore_n 1, 1) := do_40 DX8_digest_40
theorem dX8_digest_41 : decode cX8_digest 41 = .ok (.iinc 4 1, 3) := do_84 DX8_digest_41
theorem dX8_digest_44 : decode cX8_digest 44 = .ok (.goto (-25), 3) := do_a7 DX8_digest_44 (by decide +kernel)
theorem dX8_digest_47 : decode cX8_digest 47 = .ok (.aload_n 0, 1) := do_2a DX8_digest_47
theorem dX8_digest_48 : decode cX8_digest 48 = .ok (.iload_n 3, 1) := do_1d DX8_digest_48
theorem dX8_digest_49 : decode cX8_digest 49 = .ok (.invokevirtual 167, 3) := do_b6 DX8_digest_49
theorem dX8_digest_52 : decode cX8_digest 52 = .ok (.astore 4, 2) := do_3a DX8_digest_52
theorem dX8_digest_54 : decode cX8_digest 54 = .ok (.iconst 0, 1) := do_03 DX8_digest_54
theorem dX8_digest_55 : decode cX8_digest 55 = .ok (.istore 5, 2) := do_36 DX8_digest_55
theorem dX8_digest_57 : decode cX8_digest 57 = .ok (.iload 5, 2) := do_15 DX8_digest_57
theorem dX8_digest_59 : decode cX8_digest 59 = .ok (.iconst 4, 1) := do_07 DX8_digest_59
theorem dX8_digest_60 : decode cX8_digest 60 = .ok (.if_icmp .ge 24, 3) := do_a2 DX8_digest_60 (by decide +kernel)
theorem dX8_digest_63 : decode cX8_digest 63 = .ok (.lload_n 1, 1) := do_1f DX8_digest_63
theorem dX8_digest_64 : decode cX8_digest 64 = .ok (.ldc2_w 286, 3) := by decide +kernel
theorem dX8_digest_67 : decode cX8_digest 67 = .ok (.lmul, 1) := do_69 DX8_digest_67
theorem dX8_digest_68 : decode cX8_digest 68 = .ok (.aload 4, 2) := do_19 DX8_digest_68
theorem dX8_digest_70 : decode cX8_digest 70 = .ok (.iload 5, 2) := do_15 DX8_digest_70
theorem dX8_digest_72 : decode cX8_digest 72 = .ok (.aaload, 1) := do_32 DX8_digest_72
theorem dX8_digest_73 : decode cX8_digest 73 = .ok (.invokestatic 181, 3) := do_b8 DX8_digest_73
theorem dX8_digest_76 : decode cX8_digest 76 = .ok (.ladd, 1) := do_61 DX8_digest_76
theorem dX8_digest_77 : decode cX8_digest 77 = .ok (.lstore_n 1, 1) := do_40 DX8_digest_77
theorem dX8_digest_78 : decode cX8_digest 78 = .ok (.iinc 5 1, 3) := do_84 DX8_digest_78
theorem dX8_digest_81 : decode cX8_digest 81 = .ok (.goto (-24), 3) := do_a7 DX8_digest_81 (by decide +kernel)
theorem dX8_digest_84 : decode cX8_digest 84 = .ok (.iconst 1, 1) := do_04 DX8_digest_84
theorem dX8_digest_85 : decode cX8_digest 85 = .ok (.istore 5, 2) := do_36 DX8_digest_85
theorem dX8_digest_87 : decode cX8_digest 87 = .ok (.iload 5, 2) := do_15 DX8_digest_87
theorem dX8_digest_89 : decode cX8_digest 89 = .ok (.iconst 3, 1) := do_06 DX8_digest_89
theorem dX8_digest_90 : decode cX8_digest 90 = .ok (.if_icmp .ge 30, 3) := do_a2 DX8_digest_90 (by decide +kernel)
theorem dX8_digest_93 : decode cX8_digest 93 = .ok (.lload_n 1, 1) := do_1f DX8_digest_93
theorem dX8_digest_94 : decode cX8_digest 94 = .ok (.ldc2_w 286, 3) := by decide +kernel
theorem dX8_digest_97 : decode cX8_digest 97 = .ok (.lmul, 1) := do_69 DX8_digest_97
theorem dX8_digest_98 : decode cX8_digest 98 = .ok (.aload_n 0, 1) := do_2a DX8_digest_98
theorem dX8_digest_99 : decode cX8_digest 99 = .ok (.getfield 9, 3) := do_b4 DX8_digest_99
theorem dX8_digest_102 : decode cX8_digest 102 = .ok (.iload_n 3, 1) := do_1d DX8_digest_102
theorem dX8_digest_103 : decode cX8_digest 103 = .ok (.iaload, 1) := do_2e DX8_digest_103
theorem dX8_digest_104 : decode cX8_digest 104 = .ok (.aload 4, 2) := do_19 DX8_digest_104
theorem dX8_digest_106 : decode cX8_digest 106 = .ok (.iload 5, 2) := do_15 DX8_digest_106
theorem dX8_digest_108 : decode cX8_digest 108 = .ok (.invokestatic 192, 3) := do_b8 DX8_digest_108
theorem dX8_digest_111 : decode cX8_digest 111 = .ok (.i2l, 1) := do_85 DX8_digest_111
theorem dX8_digest_112 : decode cX8_digest 112 = .ok (.ladd, 1) := do_61 DX8_digest_112
theorem dX8_digest_113 : decode cX8_digest 113 = .ok (.lstore_n 1, 1) := do_40 DX8_digest_113
theorem dX8_digest_114 : decode cX8_digest 114 = .ok (.iinc 5 1, 3) := do_84 DX8_digest_114
theorem dX8_digest_117 : decode cX8_digest 117 = .ok (.goto (-30), 3) := do_a7 DX8_digest_117 (by decide +kernel)
theorem dX8_digest_120 : decode cX8_digest 120 = .ok (.iinc 3 1, 3) := do_84 DX8_digest_120
theorem dX8_digest_123 : decode cX8_digest 123 = .ok (.goto (-112), 3) := do_a7 DX8_digest_123 (by decide +kernel)
theorem dX8_digest_126 : decode cX8_digest 126 = .ok (.iconst 0, 1) := do_03 DX8_digest_126
theorem dX8_digest_127 : decode cX8_digest 127 = .ok (.istore_n 3, 1) := do_3e DX8_digest_127
theorem dX8_digest_128 : decode cX8_digest 128 = .ok (.iload_n 3, 1) := do_1d DX8_digest_128
theorem dX8_digest_129 : decode cX8_digest 129 = .ok (.iconst 3, 1) := do_06 DX8_digest_129
theorem dX8_digest_130 : decode cX8_digest 130 = .ok (.if_icmp .ge 87, 3) := do_a2 DX8_digest_130 (by decide +kernel)
theorem dX8_digest_133 : decode cX8_digest 133 = .ok (.lload_n 1, 1) := do_1f DX8_digest_133
theorem dX8_digest_134 : decode cX8_digest 134 = .ok (.ldc2_w 286, 3) := by decide +kernel
theorem dX8_digest_137 : decode cX8_digest 137 = .ok (.lmul, 1) := do_69 DX8_digest_137
theorem dX8_digest_138 : decode cX8_digest 138 = .ok (.aload_n 0, 1) := do_2a DX8_digest_138
theorem dX8_digest_139 : decode cX8_digest 139 = .ok (.getfield 16, 3) := do_b4 DX8_digest_139
theorem dX8_digest_142 : decode cX8_digest 142 = .ok (.iload_n 3, 1) := do_1d DX8_digest_142
theorem dX8_digest_143 : decode cX8_digest 143 = .ok (.iaload, 1) := do_2e DX8_digest_143
theorem dX8_digest_144 : decode cX8_digest 144 = .ok (.i2l, 1) := do_85 DX8_digest_144
theorem dX8_digest_145 : decode cX8_digest 145 = .ok (.ladd, 1) := do_61 DX8_digest_145
theorem dX8_digest_146 : decode cX8_digest 146 = .ok (.lstore_n 1, 1) := do_40 DX8_digest_146
theorem dX8_digest_147 : decode cX8_digest 147 = .ok (.lload_n 1, 1) := do_1f DX8_digest_147
theorem dX8_digest_148 : decode cX8_digest 148 = .ok (.ldc2_w 286, 3) := by decide +kernel
theorem dX8_digest_151 : decode cX8_digest 151 = .ok (.lmul, 1) := do_69 DX8_digest_151
theorem dX8_digest_152 : decode cX8_digest 152 = .ok (.aload_n 0, 1) := do_2a DX8_digest_152
theorem dX8_digest_153 : decode cX8_digest 153 = .ok (.getfield 24, 3) := do_b4 DX8_digest_153
theorem dX8_digest_156 : decode cX8_digest 156 = .ok (.iload_n 3, 1) := do_1d DX8_digest_156
theorem dX8_digest_157 : decode cX8_digest 157 = .ok (.aaload, 1) := do_32 DX8_digest_157
theorem dX8_digest_158 : decode cX8_digest 158 = .ok (.invokestatic 181, 3) := do_b8 DX8_digest_158
theorem dX8_digest_161 : decode cX8_digest 161 = .ok (.ladd, 1) := do_61 DX8_digest_161
theorem dX8_digest_162 : decode cX8_digest 162 = .ok (.ldc2_w 286, 3) := by decide +kernel
theorem dX8_digest_165 : decode cX8_digest 165 = .ok (.lmul, 1) := do_69 DX8_digest_165
theorem dX8_digest_166 : decode cX8_digest 166 = .ok (.aload_n 0, 1) := do_2a DX8_digest_166
theorem dX8_digest_167 : decode cX8_digest 167 = .ok (.getfield 28, 3) := do_b4 DX8_digest_167
theorem dX8_digest_170 : decode cX8_digest 170 = .ok (.iload_n 3, 1) := do_1d DX8_digest_170
theorem dX8_digest_171 : decode cX8_digest 171 = .ok (.aaload, 1) := do_32 DX8_digest_171
theorem dX8_digest_172 : decode cX8_digest 172 = .ok (.invokestatic 181, 3) := do_b8 DX8_digest_172
theorem dX8_digest_175 : decode cX8_digest 175 = .ok (.ladd, 1) := do_61 DX8_digest_175
theorem dX8_digest_176 : decode cX8_digest 176 = .ok (.lstore_n 1, 1) := do_40 DX8_digest_176
theorem dX8_digest_177 : decode cX8_digest 177 = .ok (.lload_n 1, 1) := do_1f DX8_digest_177
theorem dX8_digest_178 : decode cX8_digest 178 = .ok (.ldc2_w 286, 3) := by decide +kernel
theorem dX8_digest_181 : decode cX8_digest 181 = .ok (.lmul, 1) := do_69 DX8_digest_181
theorem dX8_digest_182 : decode cX8_digest 182 = .ok (.aload_n 0, 1) := do_2a DX8_digest_182
theorem dX8_digest_183 : decode cX8_digest 183 = .ok (.getfield 24, 3) := do_b4 DX8_digest_183
theorem dX8_digest_186 : decode cX8_digest 186 = .ok (.iload_n 3, 1) := do_1d DX8_digest_186
theorem dX8_digest_187 : decode cX8_digest 187 = .ok (.aaload, 1) := do_32 DX8_digest_187
theorem dX8_digest_188 : decode cX8_digest 188 = .ok (.iconst 0, 1) := do_03 DX8_digest_188
theorem dX8_digest_189 : decode cX8_digest 189 = .ok (.invokestatic 121, 3) := do_b8 DX8_digest_189
theorem dX8_digest_192 : decode cX8_digest 192 = .ok (.i2l, 1) := do_85 DX8_digest_192
theorem dX8_digest_193 : decode cX8_digest 193 = .ok (.ladd, 1) := do_61 DX8_digest_193
theorem dX8_digest_194 : decode cX8_digest 194 = .ok (.ldc2_w 286, 3) := by decide +kernel
theorem dX8_digest_197 : decode cX8_digest 197 = .ok (.lmul, 1) := do_69 DX8_digest_197
theorem dX8_digest_198 : decode cX8_digest 198 = .ok (.aload_n 0, 1) := do_2a DX8_digest_198
theorem dX8_digest_199 : decode cX8_digest 199 = .ok (.getfield 28, 3) := do_b4 DX8_digest_199
theorem dX8_digest_202 : decode cX8_digest 202 = .ok (.iload_n 3, 1) := do_1d DX8_digest_202
theorem dX8_digest_203 : decode cX8_digest 203 = .ok (.aaload, 1) := do_32 DX8_digest_203
theorem dX8_digest_204 : decode cX8_digest 204 = .ok (.iconst 0, 1) := do_03 DX8_digest_204
theorem dX8_digest_205 : decode cX8_digest 205 = .ok (.invokestatic 121, 3) := do_b8 DX8_digest_205
theorem dX8_digest_208 : decode cX8_digest 208 = .ok (.i2l, 1) := do_85 DX8_digest_208
theorem dX8_digest_209 : decode cX8_digest 209 = .ok (.ladd, 1) := do_61 DX8_digest_209
theorem dX8_digest_210 : decode cX8_digest 210 = .ok (.lstore_n 1, 1) := do_40 DX8_digest_210
theorem dX8_digest_211 : decode cX8_digest 211 = .ok (.iinc 3 1, 3) := do_84 DX8_digest_211
theorem dX8_digest_214 : decode cX8_digest 214 = .ok (.goto (-86), 3) := do_a7 DX8_digest_214 (by decide +kernel)
theorem dX8_digest_217 : decode cX8_digest 217 = .ok (.iconst 0, 1) := do_03 DX8_digest_217
theorem dX8_digest_218 : decode cX8_digest 218 = .ok (.istore_n 3, 1) := do_3e DX8_digest_218
theorem dX8_digest_219 : decode cX8_digest 219 = .ok (.iload_n 3, 1) := do_1d DX8_digest_219
theorem dX8_digest_220 : decode cX8_digest 220 = .ok (.iconst 3, 1) := do_06 DX8_digest_220
theorem dX8_digest_221 : decode cX8_digest 221 = .ok (.if_icmp .ge 40, 3) := do_a2 DX8_digest_221 (by decide +kernel)
theorem dX8_digest_224 : decode cX8_digest 224 = .ok (.iconst 0, 1) := do_03 DX8_digest_224
theorem dX8_digest_225 : decode cX8_digest 225 = .ok (.istore 4, 2) := do_36 DX8_digest_225
theorem dX8_digest_227 : decode cX8_digest 227 = .ok (.iload 4, 2) := do_15 DX8_digest_227
theorem dX8_digest_229 : decode cX8_digest 229 = .ok (.bipush 8, 2) := do_10 DX8_digest_229 (by decide +kernel)
theorem dX8_digest_231 : decode cX8_digest 231 = .ok (.if_icmp .ge 24, 3) := do_a2 DX8_digest_231 (by decide +kernel)
theorem dX8_digest_234 : decode cX8_digest 234 = .ok (.lload_n 1, 1) := do_1f DX8_digest_234
theorem dX8_digest_235 : decode cX8_digest 235 = .ok (.ldc2_w 286, 3) := by decide +kernel
theorem dX8_digest_238 : decode cX8_digest 238 = .ok (.lmul, 1) := do_69 DX8_digest_238
theorem dX8_digest_239 : decode cX8_digest 239 = .ok (.aload_n 0, 1) := do_2a DX8_digest_239
theorem dX8_digest_240 : decode cX8_digest 240 = .ok (.iload_n 3, 1) := do_1d DX8_digest_240
theorem dX8_digest_241 : decode cX8_digest 241 = .ok (.iload 4, 2) := do_15 DX8_digest_241
theorem dX8_digest_243 : decode cX8_digest 243 = .ok (.invokevirtual 271, 3) := do_b6 DX8_digest_243
theorem dX8_digest_246 : decode cX8_digest 246 = .ok (.i2l, 1) := do_85 DX8_digest_246
theorem dX8_digest_247 : decode cX8_digest 247 = .ok (.ladd, 1) := do_61 DX8_digest_247
theorem dX8_digest_248 : decode cX8_digest 248 = .ok (.lstore_n 1, 1) := do_40 DX8_digest_248
theorem dX8_digest_249 : decode cX8_digest 249 = .ok (.iinc 4 1, 3) := do_84 DX8_digest_249
theorem dX8_digest_252 : decode cX8_digest 252 = .ok (.goto (-25), 3) := do_a7 DX8_digest_252 (by decide +kernel)
theorem dX8_digest_255 : decode cX8_digest 255 = .ok (.iinc 3 1, 3) := do_84 DX8_digest_255
theorem dX8_digest_258 : decode cX8_digest 258 = .ok (.goto (-39), 3) := do_a7 DX8_digest_258 (by decide +kernel)
theorem dX8_digest_261 : decode cX8_digest 261 = .ok (.iconst 0, 1) := do_03 DX8_digest_261
theorem dX8_digest_262 : decode cX8_digest 262 = .ok (.istore_n 3, 1) := do_3e DX8_digest_262
theorem dX8_digest_263 : decode cX8_digest 263 = .ok (.iload_n 3, 1) := do_1d DX8_digest_263
theorem dX8_digest_264 : decode cX8_digest 264 = .ok (.iconst 5, 1) := do_08 DX8_digest_264
theorem dX8_digest_265 : decode cX8_digest 265 = .ok (.if_icmp .ge 23, 3) := do_a2 DX8_digest_265 (by decide +kernel)
theorem dX8_digest_268 : decode cX8_digest 268 = .ok (.lload_n 1, 1) := do_1f DX8_digest_268
theorem dX8_digest_269 : decode cX8_digest 269 = .ok (.ldc2_w 286, 3) := by decide +kernel
theorem dX8_digest_272 : decode cX8_digest 272 = .ok (.lmul, 1) := do_69 DX8_digest_272
theorem dX8_digest_273 : decode cX8_digest 273 = .ok (.aload_n 0, 1) := do_2a DX8_digest_273
theorem dX8_digest_274 : decode cX8_digest 274 = .ok (.getfield 38, 3) := do_b4 DX8_digest_274
theorem dX8_digest_277 : decode cX8_digest 277 = .ok (.iload_n 3, 1) := do_1d DX8_digest_277
theorem dX8_digest_278 : decode cX8_digest 278 = .ok (.iaload, 1) := do_2e DX8_digest_278
theorem dX8_digest_279 : decode cX8_digest 279 = .ok (.i2l, 1) := do_85 DX8_digest_279
theorem dX8_digest_280 : decode cX8_digest 280 = .ok (.ladd, 1) := do_61 DX8_digest_280
theorem dX8_digest_281 : decode cX8_digest 281 = .ok (.lstore_n 1, 1) := do_40 DX8_digest_281
theorem dX8_digest_282 : decode cX8_digest 282 = .ok (.iinc 3 1, 3) := do_84 DX8_digest_282
theorem dX8_digest_285 : decode cX8_digest 285 = .ok (.goto (-22), 3) := do_a7 DX8_digest_285 (by decide +kernel)
theorem dX8_digest_288 : decode cX8_digest 288 = .ok (.lload_n 1, 1) := do_1f DX8_digest_288
theorem dX8_digest_289 : decode cX8_digest 289 = .ok (.ldc2_w 286, 3) := by decide +kernel
theorem dX8_digest_292 : decode cX8_digest 292 = .ok (.lmul, 1) := do_69 DX8_digest_292
theorem dX8_digest_293 : decode cX8_digest 293 = .ok (.aload_n 0, 1) := do_2a DX8_digest_293
theorem dX8_digest_294 : decode cX8_digest 294 = .ok (.invokevirtual 280, 3) := do_b6 DX8_digest_294
theorem dX8_digest_297 : decode cX8_digest 297 = .ok (.ifCond .eq 7, 3) := do_99 DX8_digest_297 (by decide +kernel)
theorem dX8_digest_300 : decode cX8_digest 300 = .ok (.iconst 1, 1) := do_04 DX8_digest_300
theorem dX8_digest_301 : decode cX8_digest 301 = .ok (.goto 4, 3) := do_a7 DX8_digest_301 (by decide +kernel)
theorem dX8_digest_304 : decode cX8_digest 304 = .ok (.iconst 0, 1) := do_03 DX8_digest_304
theorem dX8_digest_305 : decode cX8_digest 305 = .ok (.i2l, 1) := do_85 DX8_digest_305
theorem dX8_digest_306 : decode cX8_digest 306 = .ok (.ladd, 1) := do_61 DX8_digest_306
theorem dX8_digest_307 : decode cX8_digest 307 = .ok (.lreturn, 1) := do_ad DX8_digest_307
