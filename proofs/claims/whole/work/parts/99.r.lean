/-! the fewest irons: the reference, whole -/
theorem m254 (ph : Bool) (d : Nat) (a x0 p0 y0 : Int) (M : zM) : zEm ph (d + 1) 254 [(30, a, x0), (0, p0, y0)] M = zEv ph d 254 0 [(30, a, x0), (0, p0, y0), (3, 0, 0), (3, 0, 0), (3, 0, 0), (3, 0, 0), (3, 0, 0), (3, 0, 0)] [] M := rfl
theorem e254_0 (ph : Bool) (d : Nat) (L st : List zV) (M : zM) : zEv ph d 254 0 L st M = zcont ph d 254 (zstep ph (zEm ph d) 4 1 0 [0] L st M) := zEv_step rfl
theorem e254_1 (ph : Bool) (d : Nat) (L st : List zV) (M : zM) : zEv ph d 254 1 L st M = zcont ph d 254 (zstep ph (zEm ph d) 0 2 0 [0] L st M) := zEv_step rfl
theorem e254_2 (ph : Bool) (d : Nat) (L st : List zV) (M : zM) : zEv ph d 254 2 L st M = zcont ph d 254 (zstep ph (zEm ph d) 65 5 0 [30, 0] L st M) := zEv_step rfl
theorem e254_5 (ph : Bool) (d : Nat) (L st : List zV) (M : zM) : zEv ph d 254 5 L st M = zcont ph d 254 (zstep ph (zEm ph d) 4 6 0 [0] L st M) := zEv_step rfl
theorem e254_6 (ph : Bool) (d : Nat) (L st : List zV) (M : zM) : zEv ph d 254 6 L st M = zcont ph d 254 (zstep ph (zEm ph d) 2 7 0 [1] L st M) := zEv_step rfl
theorem e254_7 (ph : Bool) (d : Nat) (L st : List zV) (M : zM) : zEv ph d 254 7 L st M = zcont ph d 254 (zstep ph (zEm ph d) 70 10 206 [2, 1, 30] L st M) := zEv_step rfl
theorem e254_10 (ph : Bool) (d : Nat) (L st : List zV) (M : zM) : zEv ph d 254 10 L st M = zcont ph d 254 (zstep ph (zEm ph d) 41 13 15 [] L st M) := zEv_step rfl
theorem e254_13 (ph : Bool) (d : Nat) (L st : List zV) (M : zM) : zEv ph d 254 13 L st M = zcont ph d 254 (zstep ph (zEm ph d) 0 14 0 [-1] L st M) := zEv_step rfl
theorem e254_14 (ph : Bool) (d : Nat) (L st : List zV) (M : zM) : zEv ph d 254 14 L st M = zcont ph d 254 (zstep ph (zEm ph d) 80 15 0 [] L st M) := zEv_step rfl
theorem e254_15 (ph : Bool) (d : Nat) (L st : List zV) (M : zM) : zEv ph d 254 15 L st M = zcont ph d 254 (zstep ph (zEm ph d) 4 16 0 [0] L st M) := zEv_step rfl
theorem e254_16 (ph : Bool) (d : Nat) (L st : List zV) (M : zM) : zEv ph d 254 16 L st M = zcont ph d 254 (zstep ph (zEm ph d) 2 17 0 [1] L st M) := zEv_step rfl
theorem e254_17 (ph : Bool) (d : Nat) (L st : List zV) (M : zM) : zEv ph d 254 17 L st M = zcont ph d 254 (zstep ph (zEm ph d) 70 20 253 [2, 0, 30] L st M) := zEv_step rfl
theorem e254_20 (ph : Bool) (d : Nat) (L st : List zV) (M : zM) : zEv ph d 254 20 L st M = zcont ph d 254 (zstep ph (zEm ph d) 4 21 0 [0] L st M) := zEv_step rfl
theorem e254_21 (ph : Bool) (d : Nat) (L st : List zV) (M : zM) : zEv ph d 254 21 L st M = zcont ph d 254 (zstep ph (zEm ph d) 4 22 0 [0] L st M) := zEv_step rfl
theorem e254_22 (ph : Bool) (d : Nat) (L st : List zV) (M : zM) : zEv ph d 254 22 L st M = zcont ph d 254 (zstep ph (zEm ph d) 62 25 0 [30, 14, 2, 10, 368] L st M) := zEv_step rfl
theorem e254_25 (ph : Bool) (d : Nat) (L st : List zV) (M : zM) : zEv ph d 254 25 L st M = zcont ph d 254 (zstep ph (zEm ph d) 0 27 0 [106] L st M) := zEv_step rfl
theorem e254_27 (ph : Bool) (d : Nat) (L st : List zV) (M : zM) : zEv ph d 254 27 L st M = zcont ph d 254 (zstep ph (zEm ph d) 2 28 0 [1] L st M) := zEv_step rfl
theorem e254_28 (ph : Bool) (d : Nat) (L st : List zV) (M : zM) : zEv ph d 254 28 L st M = zcont ph d 254 (zstep ph (zEm ph d) 10 29 0 [] L st M) := zEv_step rfl
theorem e254_29 (ph : Bool) (d : Nat) (L st : List zV) (M : zM) : zEv ph d 254 29 L st M = zcont ph d 254 (zstep ph (zEm ph d) 85 30 0 [] L st M) := zEv_step rfl
theorem e254_30 (ph : Bool) (d : Nat) (L st : List zV) (M : zM) : zEv ph d 254 30 L st M = zcont ph d 254 (zstep ph (zEm ph d) 0 31 0 [1] L st M) := zEv_step rfl
theorem e254_31 (ph : Bool) (d : Nat) (L st : List zV) (M : zM) : zEv ph d 254 31 L st M = zcont ph d 254 (zstep ph (zEm ph d) 70 34 212 [3, 1, 30] L st M) := zEv_step rfl
theorem e254_34 (ph : Bool) (d : Nat) (L st : List zV) (M : zM) : zEv ph d 254 34 L st M = zcont ph d 254 (zstep ph (zEm ph d) 5 35 0 [2] L st M) := zEv_step rfl
theorem e254_35 (ph : Bool) (d : Nat) (L st : List zV) (M : zM) : zEv ph d 254 35 L st M = zcont ph d 254 (zstep ph (zEm ph d) 0 36 0 [0] L st M) := zEv_step rfl
theorem e254_36 (ph : Bool) (d : Nat) (L st : List zV) (M : zM) : zEv ph d 254 36 L st M = zcont ph d 254 (zstep ph (zEm ph d) 5 37 0 [3] L st M) := zEv_step rfl
theorem e254_37 (ph : Bool) (d : Nat) (L st : List zV) (M : zM) : zEv ph d 254 37 L st M = zcont ph d 254 (zstep ph (zEm ph d) 2 38 0 [3] L st M) := zEv_step rfl
theorem e254_38 (ph : Bool) (d : Nat) (L st : List zV) (M : zM) : zEv ph d 254 38 L st M = zcont ph d 254 (zstep ph (zEm ph d) 0 41 0 [200] L st M) := zEv_step rfl
theorem e254_41 (ph : Bool) (d : Nat) (L st : List zV) (M : zM) : zEv ph d 254 41 L st M = zcont ph d 254 (zstep ph (zEm ph d) 50 44 65 [] L st M) := zEv_step rfl
theorem e254_44 (ph : Bool) (d : Nat) (L st : List zV) (M : zM) : zEv ph d 254 44 L st M = zcont ph d 254 (zstep ph (zEm ph d) 4 45 0 [0] L st M) := zEv_step rfl
theorem e254_45 (ph : Bool) (d : Nat) (L st : List zV) (M : zM) : zEv ph d 254 45 L st M = zcont ph d 254 (zstep ph (zEm ph d) 4 46 0 [0] L st M) := zEv_step rfl
theorem e254_46 (ph : Bool) (d : Nat) (L st : List zV) (M : zM) : zEv ph d 254 46 L st M = zcont ph d 254 (zstep ph (zEm ph d) 62 49 0 [30, 27, 12, 10, 2211] L st M) := zEv_step rfl
theorem e254_49 (ph : Bool) (d : Nat) (L st : List zV) (M : zM) : zEv ph d 254 49 L st M = zcont ph d 254 (zstep ph (zEm ph d) 2 50 0 [3] L st M) := zEv_step rfl
theorem e254_50 (ph : Bool) (d : Nat) (L st : List zV) (M : zM) : zEv ph d 254 50 L st M = zcont ph d 254 (zstep ph (zEm ph d) 85 51 0 [] L st M) := zEv_step rfl
theorem e254_51 (ph : Bool) (d : Nat) (L st : List zV) (M : zM) : zEv ph d 254 51 L st M = zcont ph d 254 (zstep ph (zEm ph d) 0 52 0 [0] L st M) := zEv_step rfl
theorem e254_52 (ph : Bool) (d : Nat) (L st : List zV) (M : zM) : zEv ph d 254 52 L st M = zcont ph d 254 (zstep ph (zEm ph d) 70 55 211 [3, 1, 30] L st M) := zEv_step rfl
theorem e254_55 (ph : Bool) (d : Nat) (L st : List zV) (M : zM) : zEv ph d 254 55 L st M = zcont ph d 254 (zstep ph (zEm ph d) 2 56 0 [2] L st M) := zEv_step rfl
theorem e254_56 (ph : Bool) (d : Nat) (L st : List zV) (M : zM) : zEv ph d 254 56 L st M = zcont ph d 254 (zstep ph (zEm ph d) 50 59 65 [] L st M) := zEv_step rfl
theorem e254_59 (ph : Bool) (d : Nat) (L st : List zV) (M : zM) : zEv ph d 254 59 L st M = zcont ph d 254 (zstep ph (zEm ph d) 8 62 0 [3, 1] L st M) := zEv_step rfl
theorem e254_62 (ph : Bool) (d : Nat) (L st : List zV) (M : zM) : zEv ph d 254 62 L st M = zcont ph d 254 (zstep ph (zEm ph d) 52 65 37 [] L st M) := zEv_step rfl
theorem e254_65 (ph : Bool) (d : Nat) (L st : List zV) (M : zM) : zEv ph d 254 65 L st M = zcont ph d 254 (zstep ph (zEm ph d) 2 66 0 [3] L st M) := zEv_step rfl
theorem e254_66 (ph : Bool) (d : Nat) (L st : List zV) (M : zM) : zEv ph d 254 66 L st M = zcont ph d 254 (zstep ph (zEm ph d) 0 69 0 [200] L st M) := zEv_step rfl
theorem e254_69 (ph : Bool) (d : Nat) (L st : List zV) (M : zM) : zEv ph d 254 69 L st M = zcont ph d 254 (zstep ph (zEm ph d) 51 72 74 [] L st M) := zEv_step rfl
theorem e254_72 (ph : Bool) (d : Nat) (L st : List zV) (M : zM) : zEv ph d 254 72 L st M = zcont ph d 254 (zstep ph (zEm ph d) 0 73 0 [-1] L st M) := zEv_step rfl
theorem e254_73 (ph : Bool) (d : Nat) (L st : List zV) (M : zM) : zEv ph d 254 73 L st M = zcont ph d 254 (zstep ph (zEm ph d) 80 74 0 [] L st M) := zEv_step rfl
theorem e254_74 (ph : Bool) (d : Nat) (L st : List zV) (M : zM) : zEv ph d 254 74 L st M = zcont ph d 254 (zstep ph (zEm ph d) 4 75 0 [0] L st M) := zEv_step rfl
theorem e254_75 (ph : Bool) (d : Nat) (L st : List zV) (M : zM) : zEv ph d 254 75 L st M = zcont ph d 254 (zstep ph (zEm ph d) 4 76 0 [0] L st M) := zEv_step rfl
theorem e254_76 (ph : Bool) (d : Nat) (L st : List zV) (M : zM) : zEv ph d 254 76 L st M = zcont ph d 254 (zstep ph (zEm ph d) 62 79 0 [30, 14, 2, 10, 368] L st M) := zEv_step rfl
theorem e254_79 (ph : Bool) (d : Nat) (L st : List zV) (M : zM) : zEv ph d 254 79 L st M = zcont ph d 254 (zstep ph (zEm ph d) 0 80 0 [1] L st M) := zEv_step rfl
theorem e254_80 (ph : Bool) (d : Nat) (L st : List zV) (M : zM) : zEv ph d 254 80 L st M = zcont ph d 254 (zstep ph (zEm ph d) 85 81 0 [] L st M) := zEv_step rfl
theorem e254_81 (ph : Bool) (d : Nat) (L st : List zV) (M : zM) : zEv ph d 254 81 L st M = zcont ph d 254 (zstep ph (zEm ph d) 65 84 0 [30, 29] L st M) := zEv_step rfl
theorem e254_84 (ph : Bool) (d : Nat) (L st : List zV) (M : zM) : zEv ph d 254 84 L st M = zcont ph d 254 (zstep ph (zEm ph d) 2 85 0 [3] L st M) := zEv_step rfl
theorem e254_85 (ph : Bool) (d : Nat) (L st : List zV) (M : zM) : zEv ph d 254 85 L st M = zcont ph d 254 (zstep ph (zEm ph d) 5 87 0 [4] L st M) := zEv_step rfl
theorem e254_87 (ph : Bool) (d : Nat) (L st : List zV) (M : zM) : zEv ph d 254 87 L st M = zcont ph d 254 (zstep ph (zEm ph d) 0 88 0 [0] L st M) := zEv_step rfl
theorem e254_88 (ph : Bool) (d : Nat) (L st : List zV) (M : zM) : zEv ph d 254 88 L st M = zcont ph d 254 (zstep ph (zEm ph d) 5 90 0 [5] L st M) := zEv_step rfl
theorem e254_90 (ph : Bool) (d : Nat) (L st : List zV) (M : zM) : zEv ph d 254 90 L st M = zcont ph d 254 (zstep ph (zEm ph d) 0 91 0 [0] L st M) := zEv_step rfl
theorem e254_91 (ph : Bool) (d : Nat) (L st : List zV) (M : zM) : zEv ph d 254 91 L st M = zcont ph d 254 (zstep ph (zEm ph d) 5 93 0 [6] L st M) := zEv_step rfl
theorem e254_93 (ph : Bool) (d : Nat) (L st : List zV) (M : zM) : zEv ph d 254 93 L st M = zcont ph d 254 (zstep ph (zEm ph d) 2 95 0 [6] L st M) := zEv_step rfl
theorem e254_95 (ph : Bool) (d : Nat) (L st : List zV) (M : zM) : zEv ph d 254 95 L st M = zcont ph d 254 (zstep ph (zEm ph d) 4 96 0 [0] L st M) := zEv_step rfl
theorem e254_96 (ph : Bool) (d : Nat) (L st : List zV) (M : zM) : zEv ph d 254 96 L st M = zcont ph d 254 (zstep ph (zEm ph d) 60 99 0 [30, 29] L st M) := zEv_step rfl
theorem e254_99 (ph : Bool) (d : Nat) (L st : List zV) (M : zM) : zEv ph d 254 99 L st M = zcont ph d 254 (zstep ph (zEm ph d) 49 102 188 [] L st M) := zEv_step rfl
theorem e254_102 (ph : Bool) (d : Nat) (L st : List zV) (M : zM) : zEv ph d 254 102 L st M = zcont ph d 254 (zstep ph (zEm ph d) 0 103 0 [0] L st M) := zEv_step rfl
theorem e254_103 (ph : Bool) (d : Nat) (L st : List zV) (M : zM) : zEv ph d 254 103 L st M = zcont ph d 254 (zstep ph (zEm ph d) 5 105 0 [7] L st M) := zEv_step rfl
theorem e254_105 (ph : Bool) (d : Nat) (L st : List zV) (M : zM) : zEv ph d 254 105 L st M = zcont ph d 254 (zstep ph (zEm ph d) 4 106 0 [0] L st M) := zEv_step rfl
theorem e254_106 (ph : Bool) (d : Nat) (L st : List zV) (M : zM) : zEv ph d 254 106 L st M = zcont ph d 254 (zstep ph (zEm ph d) 2 108 0 [5] L st M) := zEv_step rfl
theorem e254_108 (ph : Bool) (d : Nat) (L st : List zV) (M : zM) : zEv ph d 254 108 L st M = zcont ph d 254 (zstep ph (zEm ph d) 4 109 0 [0] L st M) := zEv_step rfl
theorem e254_109 (ph : Bool) (d : Nat) (L st : List zV) (M : zM) : zEv ph d 254 109 L st M = zcont ph d 254 (zstep ph (zEm ph d) 2 111 0 [6] L st M) := zEv_step rfl
theorem e254_111 (ph : Bool) (d : Nat) (L st : List zV) (M : zM) : zEv ph d 254 111 L st M = zcont ph d 254 (zstep ph (zEm ph d) 2 112 0 [1] L st M) := zEv_step rfl
theorem e254_112 (ph : Bool) (d : Nat) (L st : List zV) (M : zM) : zEv ph d 254 112 L st M = zcont ph d 254 (zstep ph (zEm ph d) 2 114 0 [7] L st M) := zEv_step rfl
theorem e254_114 (ph : Bool) (d : Nat) (L st : List zV) (M : zM) : zEv ph d 254 114 L st M = zcont ph d 254 (zstep ph (zEm ph d) 70 117 252 [4, 1, 30] L st M) := zEv_step rfl
theorem e254_117 (ph : Bool) (d : Nat) (L st : List zV) (M : zM) : zEv ph d 254 117 L st M = zcont ph d 254 (zstep ph (zEm ph d) 10 118 0 [] L st M) := zEv_step rfl
theorem e254_118 (ph : Bool) (d : Nat) (L st : List zV) (M : zM) : zEv ph d 254 118 L st M = zcont ph d 254 (zstep ph (zEm ph d) 4 119 0 [0] L st M) := zEv_step rfl
theorem e254_119 (ph : Bool) (d : Nat) (L st : List zV) (M : zM) : zEv ph d 254 119 L st M = zcont ph d 254 (zstep ph (zEm ph d) 62 122 0 [30, 27, 12, 10, 2211] L st M) := zEv_step rfl
theorem e254_122 (ph : Bool) (d : Nat) (L st : List zV) (M : zM) : zEv ph d 254 122 L st M = zcont ph d 254 (zstep ph (zEm ph d) 0 125 0 [201] L st M) := zEv_step rfl
theorem e254_125 (ph : Bool) (d : Nat) (L st : List zV) (M : zM) : zEv ph d 254 125 L st M = zcont ph d 254 (zstep ph (zEm ph d) 2 127 0 [6] L st M) := zEv_step rfl
theorem e254_127 (ph : Bool) (d : Nat) (L st : List zV) (M : zM) : zEv ph d 254 127 L st M = zcont ph d 254 (zstep ph (zEm ph d) 0 128 0 [1] L st M) := zEv_step rfl
theorem e254_128 (ph : Bool) (d : Nat) (L st : List zV) (M : zM) : zEv ph d 254 128 L st M = zcont ph d 254 (zstep ph (zEm ph d) 10 129 0 [] L st M) := zEv_step rfl
theorem e254_129 (ph : Bool) (d : Nat) (L st : List zV) (M : zM) : zEv ph d 254 129 L st M = zcont ph d 254 (zstep ph (zEm ph d) 12 130 0 [] L st M) := zEv_step rfl
theorem e254_130 (ph : Bool) (d : Nat) (L st : List zV) (M : zM) : zEv ph d 254 130 L st M = zcont ph d 254 (zstep ph (zEm ph d) 2 132 0 [4] L st M) := zEv_step rfl
theorem e254_132 (ph : Bool) (d : Nat) (L st : List zV) (M : zM) : zEv ph d 254 132 L st M = zcont ph d 254 (zstep ph (zEm ph d) 10 133 0 [] L st M) := zEv_step rfl
theorem e254_133 (ph : Bool) (d : Nat) (L st : List zV) (M : zM) : zEv ph d 254 133 L st M = zcont ph d 254 (zstep ph (zEm ph d) 2 135 0 [7] L st M) := zEv_step rfl
theorem e254_135 (ph : Bool) (d : Nat) (L st : List zV) (M : zM) : zEv ph d 254 135 L st M = zcont ph d 254 (zstep ph (zEm ph d) 11 136 0 [] L st M) := zEv_step rfl
theorem e254_136 (ph : Bool) (d : Nat) (L st : List zV) (M : zM) : zEv ph d 254 136 L st M = zcont ph d 254 (zstep ph (zEm ph d) 85 137 0 [] L st M) := zEv_step rfl
theorem e254_137 (ph : Bool) (d : Nat) (L st : List zV) (M : zM) : zEv ph d 254 137 L st M = zcont ph d 254 (zstep ph (zEm ph d) 10 138 0 [] L st M) := zEv_step rfl
theorem e254_138 (ph : Bool) (d : Nat) (L st : List zV) (M : zM) : zEv ph d 254 138 L st M = zcont ph d 254 (zstep ph (zEm ph d) 0 139 0 [0] L st M) := zEv_step rfl
theorem e254_139 (ph : Bool) (d : Nat) (L st : List zV) (M : zM) : zEv ph d 254 139 L st M = zcont ph d 254 (zstep ph (zEm ph d) 70 142 211 [3, 1, 30] L st M) := zEv_step rfl
theorem e254_142 (ph : Bool) (d : Nat) (L st : List zV) (M : zM) : zEv ph d 254 142 L st M = zcont ph d 254 (zstep ph (zEm ph d) 2 143 0 [2] L st M) := zEv_step rfl
theorem e254_143 (ph : Bool) (d : Nat) (L st : List zV) (M : zM) : zEv ph d 254 143 L st M = zcont ph d 254 (zstep ph (zEm ph d) 50 146 152 [] L st M) := zEv_step rfl
theorem e254_146 (ph : Bool) (d : Nat) (L st : List zV) (M : zM) : zEv ph d 254 146 L st M = zcont ph d 254 (zstep ph (zEm ph d) 8 149 0 [7, 1] L st M) := zEv_step rfl
theorem e254_149 (ph : Bool) (d : Nat) (L st : List zV) (M : zM) : zEv ph d 254 149 L st M = zcont ph d 254 (zstep ph (zEm ph d) 52 152 105 [] L st M) := zEv_step rfl
theorem e254_152 (ph : Bool) (d : Nat) (L st : List zV) (M : zM) : zEv ph d 254 152 L st M = zcont ph d 254 (zstep ph (zEm ph d) 4 153 0 [0] L st M) := zEv_step rfl
theorem e254_153 (ph : Bool) (d : Nat) (L st : List zV) (M : zM) : zEv ph d 254 153 L st M = zcont ph d 254 (zstep ph (zEm ph d) 62 156 0 [30, 28, 13, 10, 10] L st M) := zEv_step rfl
theorem e254_156 (ph : Bool) (d : Nat) (L st : List zV) (M : zM) : zEv ph d 254 156 L st M = zcont ph d 254 (zstep ph (zEm ph d) 2 158 0 [6] L st M) := zEv_step rfl
theorem e254_158 (ph : Bool) (d : Nat) (L st : List zV) (M : zM) : zEv ph d 254 158 L st M = zcont ph d 254 (zstep ph (zEm ph d) 2 160 0 [7] L st M) := zEv_step rfl
theorem e254_160 (ph : Bool) (d : Nat) (L st : List zV) (M : zM) : zEv ph d 254 160 L st M = zcont ph d 254 (zstep ph (zEm ph d) 89 161 0 [] L st M) := zEv_step rfl
theorem e254_161 (ph : Bool) (d : Nat) (L st : List zV) (M : zM) : zEv ph d 254 161 L st M = zcont ph d 254 (zstep ph (zEm ph d) 2 163 0 [5] L st M) := zEv_step rfl
theorem e254_163 (ph : Bool) (d : Nat) (L st : List zV) (M : zM) : zEv ph d 254 163 L st M = zcont ph d 254 (zstep ph (zEm ph d) 4 164 0 [0] L st M) := zEv_step rfl
theorem e254_164 (ph : Bool) (d : Nat) (L st : List zV) (M : zM) : zEv ph d 254 164 L st M = zcont ph d 254 (zstep ph (zEm ph d) 2 166 0 [6] L st M) := zEv_step rfl
theorem e254_166 (ph : Bool) (d : Nat) (L st : List zV) (M : zM) : zEv ph d 254 166 L st M = zcont ph d 254 (zstep ph (zEm ph d) 2 167 0 [1] L st M) := zEv_step rfl
theorem e254_167 (ph : Bool) (d : Nat) (L st : List zV) (M : zM) : zEv ph d 254 167 L st M = zcont ph d 254 (zstep ph (zEm ph d) 2 169 0 [7] L st M) := zEv_step rfl
theorem e254_169 (ph : Bool) (d : Nat) (L st : List zV) (M : zM) : zEv ph d 254 169 L st M = zcont ph d 254 (zstep ph (zEm ph d) 70 172 252 [4, 1, 30] L st M) := zEv_step rfl
theorem e254_172 (ph : Bool) (d : Nat) (L st : List zV) (M : zM) : zEv ph d 254 172 L st M = zcont ph d 254 (zstep ph (zEm ph d) 10 173 0 [] L st M) := zEv_step rfl
theorem e254_173 (ph : Bool) (d : Nat) (L st : List zV) (M : zM) : zEv ph d 254 173 L st M = zcont ph d 254 (zstep ph (zEm ph d) 5 175 0 [5] L st M) := zEv_step rfl
theorem e254_175 (ph : Bool) (d : Nat) (L st : List zV) (M : zM) : zEv ph d 254 175 L st M = zcont ph d 254 (zstep ph (zEm ph d) 2 177 0 [4] L st M) := zEv_step rfl
theorem e254_177 (ph : Bool) (d : Nat) (L st : List zV) (M : zM) : zEv ph d 254 177 L st M = zcont ph d 254 (zstep ph (zEm ph d) 2 179 0 [7] L st M) := zEv_step rfl
theorem e254_179 (ph : Bool) (d : Nat) (L st : List zV) (M : zM) : zEv ph d 254 179 L st M = zcont ph d 254 (zstep ph (zEm ph d) 11 180 0 [] L st M) := zEv_step rfl
theorem e254_180 (ph : Bool) (d : Nat) (L st : List zV) (M : zM) : zEv ph d 254 180 L st M = zcont ph d 254 (zstep ph (zEm ph d) 5 182 0 [4] L st M) := zEv_step rfl
theorem e254_182 (ph : Bool) (d : Nat) (L st : List zV) (M : zM) : zEv ph d 254 182 L st M = zcont ph d 254 (zstep ph (zEm ph d) 8 185 0 [6, 1] L st M) := zEv_step rfl
theorem e254_185 (ph : Bool) (d : Nat) (L st : List zV) (M : zM) : zEv ph d 254 185 L st M = zcont ph d 254 (zstep ph (zEm ph d) 52 188 93 [] L st M) := zEv_step rfl
theorem e254_188 (ph : Bool) (d : Nat) (L st : List zV) (M : zM) : zEv ph d 254 188 L st M = zcont ph d 254 (zstep ph (zEm ph d) 2 189 0 [3] L st M) := zEv_step rfl
theorem e254_189 (ph : Bool) (d : Nat) (L st : List zV) (M : zM) : zEv ph d 254 189 L st M = zcont ph d 254 (zstep ph (zEm ph d) 4 190 0 [0] L st M) := zEv_step rfl
theorem e254_190 (ph : Bool) (d : Nat) (L st : List zV) (M : zM) : zEv ph d 254 190 L st M = zcont ph d 254 (zstep ph (zEm ph d) 62 193 0 [30, 14, 2, 10, 368] L st M) := zEv_step rfl
theorem e254_193 (ph : Bool) (d : Nat) (L st : List zV) (M : zM) : zEv ph d 254 193 L st M = zcont ph d 254 (zstep ph (zEm ph d) 0 194 0 [3] L st M) := zEv_step rfl
theorem e254_194 (ph : Bool) (d : Nat) (L st : List zV) (M : zM) : zEv ph d 254 194 L st M = zcont ph d 254 (zstep ph (zEm ph d) 85 195 0 [] L st M) := zEv_step rfl
theorem e254_195 (ph : Bool) (d : Nat) (L st : List zV) (M : zM) : zEv ph d 254 195 L st M = zcont ph d 254 (zstep ph (zEm ph d) 12 196 0 [] L st M) := zEv_step rfl
theorem e254_196 (ph : Bool) (d : Nat) (L st : List zV) (M : zM) : zEv ph d 254 196 L st M = zcont ph d 254 (zstep ph (zEm ph d) 80 197 0 [] L st M) := zEv_step rfl
theorem need_ech {S G : zM} {q v : Int} (hS : okS S) (hG : okG G) (v0 : -2000000 ≤ v) (v1 : v ≤ 2000000) : (if 0 < v then z32 (v + G 6 0) else 0) ≤ sWay S G (S 4 q) 1 ↔ ¬ (sNeed S G q ≤ v) := by
  have h1 := sWay_bd (g := S 4 q) (w := 1) hS hG (by omega) (by omega)
  have h2 := hG.2.2.2.2.2.2.2.2 0 (by omega) (by omega)
  rw [z32_id (by omega) (by omega)]
  unfold sNeed sMax
  split <;> split <;> omega
theorem zfnd_t {p : Int → Bool} {n : Nat} {k : Int} (h : p k = true) : zfnd p (n + 1) k = k := if_pos h
theorem zfnd_f {p : Int → Bool} {n : Nat} {k : Int} (h : p k = false) : zfnd p (n + 1) k = zfnd p n (k + 1) := if_neg (by rw [h]; decide)
def okB (M N : zM) : Prop := ∀ x y, x ≠ 209 → x ≠ 210 → x ≠ 197 → N x y = M x y
theorem r_bF (d : Nat) (z0 q y : Int) (l4 l5 l6 l7 : zV) (M N : zM) (hS : okS (zrS M)) (hG : okG (zrG M)) (hN : okB M N) (hR : okXR M N q (M 199 1).toNat) : ∀ (m : Nat) (n : Int), n + m = 201 → 0 ≤ n → zEv true (d + 7) 254 37 [(30, 197, z0), (0, q, y), (0, sWay (zrS M) (zrG M) (zrS M 4 q) 1, 0), (0, n, 0), l4, l5, l6, l7] [] N = zEv true (d + 7) 254 65 [(30, 197, z0), (0, q, y), (0, sWay (zrS M) (zrG M) (zrS M 4 q) 1, 0), (0, if zfnd (fun t => decide (sNeed (zrS M) (zrG M) q ≤ zXf M q (M 199 1).toNat t)) m n = -1 then 201 else zfnd (fun t => decide (sNeed (zrS M) (zrG M) q ≤ zXf M q (M 199 1).toNat t)) m n, 0), l4, l5, l6, l7] [] N
  | 0, n, hm, n0 => by
    have e : n = 201 := by omega
    subst e
    unfold zfnd
    rw [if_pos rfl, e254_37]
    simp (disch := first | assumption | exact zrm0 | exact zrm1 _ | exact zrm2 _ _ | exact zrm3 _ _ _ | exact zrm4 _ _ _ _ | omega) only [m254, ↓k_dp, ↓k_dn, k_dp, k_dn, k_dT, k_dF, k_ip, k_in, if_true, if_false, ne_eq, not_true_eq_false, not_false_eq_true, Int.reduceAdd, zup_a, zup_e, zup_j, z32_id, k_al0, k_ic, k_pI, k_il1, k_v2r, k_ifne, k_ri, k_v2, k_gR, k_iadd, k_ild, k_ildS, k_ildW, k_v3r, k_is2, k_is3, k_il3, k_icgt, k_il2, k_inc3, k_goto, k_icle, k_is4, k_is5, k_is6, k_il6, k_gI, k_icge, k_is7, k_il5, k_il7, k_v4r, k_imul, k_il4, k_isub, k_inc7, k_ist, k_inc6, zb0_some, zb1_some, e254_0, e254_1, e254_2, e254_5, e254_6, e254_7, e254_10, e254_13, e254_14, e254_15, e254_16, e254_17, e254_20, e254_21, e254_22, e254_25, e254_27, e254_28, e254_29, e254_30, e254_31, e254_34, e254_35, e254_36, e254_38, e254_41, e254_44, e254_45, e254_46, e254_49, e254_50, e254_51, e254_52, e254_55, e254_56, e254_59, e254_62, e254_66, e254_69, e254_72, e254_73, e254_74, e254_75, e254_76, e254_79, e254_80, e254_81, e254_84, e254_85, e254_87, e254_88, e254_90, e254_91, e254_93, e254_95, e254_96, e254_99, e254_102, e254_103, e254_105, e254_106, e254_108, e254_109, e254_111, e254_112, e254_114, e254_117, e254_118, e254_119, e254_122, e254_125, e254_127, e254_128, e254_129, e254_130, e254_132, e254_133, e254_135, e254_136, e254_137, e254_138, e254_139, e254_142, e254_143, e254_146, e254_149, e254_152, e254_153, e254_156, e254_158, e254_160, e254_161, e254_163, e254_164, e254_166, e254_167, e254_169, e254_172, e254_173, e254_175, e254_177, e254_179, e254_180, e254_182, e254_185, e254_188, e254_189, e254_190, e254_193, e254_194, e254_195, e254_196]
  | m + 1, n, hm, n0 => by
    obtain ⟨⟨g6, g6'⟩, ⟨g1, g2⟩, -⟩ := okR_M hG
    have eG : zrG N = zrG M := zrG_eq (fun b _ _ => hN 199 b (by omega) (by omega) (by omega))
    have hr := hR (M 199 1).toNat n (Nat.le_refl _) n0 (by omega)
    rw [show 201 * (M 199 1 - ((M 199 1).toNat : Int)) + n = n by omega] at hr
    have hb : -1000000 ≤ zXf M q (M 199 1).toNat n ∧ zXf M q (M 199 1).toNat n ≤ 100 * ((M 199 1).toNat : Int) := dX_bd (g := gB (zrS M) (zrG M) q) (r := rB (zrS M) (zrG M) q) (H := M 199 1) (gB_bd hS hG) (fun h => (rB_bd hS hG h).1) (M 199 1).toNat n n0
    have hne := need_ech (q := q) (v := zXf M q (M 199 1).toNat n) hS hG (by omega) (by omega)
    have hec := fun v => r_echoed (d + 6) z0 v 0 0 0 N (by omega) (by omega)
    rw [eG] at hec
    have ih := r_bF d z0 q y l4 l5 l6 l7 M N hS hG hN hR m (n + 1) (by omega) (by omega)
    rw [e254_37]
    generalize zXf M q (M 199 1).toNat = X at *
    generalize sWay (zrS M) (zrG M) (zrS M 4 q) 1 = ag at *
    have hec := hec (X n)
    generalize (if 0 < X n then z32 (X n + zrG M 6 0) else 0) = ev at *
    by_cases c : sNeed (zrS M) (zrG M) q ≤ X n
    · have c2 : ¬ (ev ≤ ag) := fun z => (hne.mp z) c
      rw [zfnd_t (decide_eq_true c), if_neg (show ¬ n = -1 by omega)]
      simp (disch := first | assumption | exact zrm0 | exact zrm1 _ | exact zrm2 _ _ | exact zrm3 _ _ _ | exact zrm4 _ _ _ _ | omega) only [m254, ↓k_dp, ↓k_dn, k_dp, k_dn, k_dT, k_dF, k_ip, k_in, if_true, if_false, ne_eq, not_true_eq_false, not_false_eq_true, Int.reduceAdd, zup_a, zup_e, zup_j, z32_id, k_al0, k_ic, k_pI, k_il1, k_v2r, k_ifne, k_ri, k_v2, k_gR, k_iadd, k_ild, k_ildS, k_ildW, k_v3r, k_is2, k_is3, k_il3, k_icgt, k_il2, k_inc3, k_goto, k_icle, k_is4, k_is5, k_is6, k_il6, k_gI, k_icge, k_is7, k_il5, k_il7, k_v4r, k_imul, k_il4, k_isub, k_inc7, k_ist, k_inc6, zb0_some, zb1_some, e254_0, e254_1, e254_2, e254_5, e254_6, e254_7, e254_10, e254_13, e254_14, e254_15, e254_16, e254_17, e254_20, e254_21, e254_22, e254_25, e254_27, e254_28, e254_29, e254_30, e254_31, e254_34, e254_35, e254_36, e254_38, e254_41, e254_44, e254_45, e254_46, e254_49, e254_50, e254_51, e254_52, e254_55, e254_56, e254_59, e254_62, e254_66, e254_69, e254_72, e254_73, e254_74, e254_75, e254_76, e254_79, e254_80, e254_81, e254_84, e254_85, e254_87, e254_88, e254_90, e254_91, e254_93, e254_95, e254_96, e254_99, e254_102, e254_103, e254_105, e254_106, e254_108, e254_109, e254_111, e254_112, e254_114, e254_117, e254_118, e254_119, e254_122, e254_125, e254_127, e254_128, e254_129, e254_130, e254_132, e254_133, e254_135, e254_136, e254_137, e254_138, e254_139, e254_142, e254_143, e254_146, e254_149, e254_152, e254_153, e254_156, e254_158, e254_160, e254_161, e254_163, e254_164, e254_166, e254_167, e254_169, e254_172, e254_173, e254_175, e254_177, e254_179, e254_180, e254_182, e254_185, e254_188, e254_189, e254_190, e254_193, e254_194, e254_195, e254_196, hr, hec]
    · have c2 : ev ≤ ag := hne.mpr c
      rw [zfnd_f (decide_eq_false c)]
      simp (disch := first | assumption | exact zrm0 | exact zrm1 _ | exact zrm2 _ _ | exact zrm3 _ _ _ | exact zrm4 _ _ _ _ | omega) only [m254, ↓k_dp, ↓k_dn, k_dp, k_dn, k_dT, k_dF, k_ip, k_in, if_true, if_false, ne_eq, not_true_eq_false, not_false_eq_true, Int.reduceAdd, zup_a, zup_e, zup_j, z32_id, k_al0, k_ic, k_pI, k_il1, k_v2r, k_ifne, k_ri, k_v2, k_gR, k_iadd, k_ild, k_ildS, k_ildW, k_v3r, k_is2, k_is3, k_il3, k_icgt, k_il2, k_inc3, k_goto, k_icle, k_is4, k_is5, k_is6, k_il6, k_gI, k_icge, k_is7, k_il5, k_il7, k_v4r, k_imul, k_il4, k_isub, k_inc7, k_ist, k_inc6, zb0_some, zb1_some, e254_0, e254_1, e254_2, e254_5, e254_6, e254_7, e254_10, e254_13, e254_14, e254_15, e254_16, e254_17, e254_20, e254_21, e254_22, e254_25, e254_27, e254_28, e254_29, e254_30, e254_31, e254_34, e254_35, e254_36, e254_38, e254_41, e254_44, e254_45, e254_46, e254_49, e254_50, e254_51, e254_52, e254_55, e254_56, e254_59, e254_62, e254_66, e254_69, e254_72, e254_73, e254_74, e254_75, e254_76, e254_79, e254_80, e254_81, e254_84, e254_85, e254_87, e254_88, e254_90, e254_91, e254_93, e254_95, e254_96, e254_99, e254_102, e254_103, e254_105, e254_106, e254_108, e254_109, e254_111, e254_112, e254_114, e254_117, e254_118, e254_119, e254_122, e254_125, e254_127, e254_128, e254_129, e254_130, e254_132, e254_133, e254_135, e254_136, e254_137, e254_138, e254_139, e254_142, e254_143, e254_146, e254_149, e254_152, e254_153, e254_156, e254_158, e254_160, e254_161, e254_163, e254_164, e254_166, e254_167, e254_169, e254_172, e254_173, e254_175, e254_177, e254_179, e254_180, e254_182, e254_185, e254_188, e254_189, e254_190, e254_193, e254_194, e254_195, e254_196, hr, hec]
      exact ih
theorem r_bK (d : Nat) (z0 q y h n sum left : Int) (M N : zM) (j : Nat) (hS : okS (zrS M)) (hG : okG (zrG M)) (q0 : 0 ≤ q) (q1 : q < 5) (hN : okB M N) (hR : okXR M N q (M 199 1).toNat) (h0 : 0 ≤ h) (h1 : h < M 199 1) (hj : h = M 199 1 - (j + 1)) (s0 : 0 ≤ sum) (s1 : sum ≤ 1000) (l1 : left ≤ 200) (hI : dInv (gB (zrS M) (zrG M) q) (rB (zrS M) (zrG M) q) (M 199 1) (j + 1) left (sNeed (zrS M) (zrG M) q - sum)) : ∀ (m : Nat) (k : Int), k + m = dN (gB (zrS M) (zrG M) q) (rB (zrS M) (zrG M) q) (M 199 1) j left (sNeed (zrS M) (zrG M) q - sum) → 0 ≤ k → zEv true (d + 7) 254 105 [(30, 197, z0), (0, q, y), (0, sWay (zrS M) (zrG M) (zrS M 4 q) 1, 0), (0, n, 0), (0, left, 0), (0, sum, 0), (0, h, 0), (0, k, 0)] [] N = zEv true (d + 7) 254 152 [(30, 197, z0), (0, q, y), (0, sWay (zrS M) (zrG M) (zrS M 4 q) 1, 0), (0, n, 0), (0, left, 0), (0, sum, 0), (0, h, 0), (0, dN (gB (zrS M) (zrG M) q) (rB (zrS M) (zrG M) q) (M 199 1) j left (sNeed (zrS M) (zrG M) q - sum), 0)] [] N := by
  intro m
  have hok := dN_ok (gB_bd (q := q) hS hG) (fun h => (rB_bd (q := q) hS hG h).1) hI
  generalize dN (gB (zrS M) (zrG M) q) (rB (zrS M) (zrG M) q) (M 199 1) j left (sNeed (zrS M) (zrG M) q - sum) = K at *
  rw [← hj] at hok
  obtain ⟨k0, k1, k2, k3, k4⟩ := hok
  obtain ⟨⟨g6, g6'⟩, ⟨g1, g2⟩, -⟩ := okR_M hG
  have eS : zrS N = zrS M := zrS_eq (fun b _ _ _ => hN 199 b (by omega) (by omega) (by omega))
  have eG : zrG N = zrG M := zrG_eq (fun b _ _ => hN 199 b (by omega) (by omega) (by omega))
  have n199 : N 199 1 = M 199 1 := hN _ _ (by omega) (by omega) (by omega)
  have hec := fun v => r_echoed (d + 6) z0 v 0 0 0 N (by omega) (by omega)
  rw [eG] at hec
  have step : ∀ k, 0 ≤ k → k ≤ K → zEm true (d + 7) 252 [(30, 197, z0), (0, h, 0), (0, q, 0), (0, k, 0)] N = some ((0, gB (zrS M) (zrG M) q h k, 0), N) ∧ (-1000000 ≤ zXf M q j (left - k) ∧ zXf M q j (left - k) ≤ 1000) ∧ N 209 (201 * (h + 1) + left - k) = zXf M q j (left - k) ∧ (0 ≤ gB (zrS M) (zrG M) q h k ∧ gB (zrS M) (zrG M) q h k ≤ 100) := fun k a b => by
    have r1 := r_gets (d + 4) z0 h 0 q 0 k 0 N (by rw [eS]; exact hS) (by rw [eG]; exact hG) h0 (by rw [n199]; exact h1) q0 q1 a (by rw [eS, eG]; omega)
    rw [eS, eG] at r1
    have r2 : -1000000 ≤ zXf M q j (left - k) ∧ zXf M q j (left - k) ≤ 100 * (j : Int) := dX_bd (g := gB (zrS M) (zrG M) q) (r := rB (zrS M) (zrG M) q) (H := M 199 1) (gB_bd hS hG) (fun h => (rB_bd hS hG h).1) j (left - k) (by omega)
    have r3 := hR j (left - k) (by omega) (by omega) (by omega)
    rw [show 201 * (M 199 1 - (j : Int)) + (left - k) = 201 * (h + 1) + left - k by omega] at r3
    exact ⟨r1, ⟨r2.1, by omega⟩, r3, gB_bd hS hG h k⟩
  have hX2 : zXf M q j = dX (gB (zrS M) (zrG M) q) (rB (zrS M) (zrG M) q) (M 199 1) j := rfl
  rw [hX2] at step
  generalize dX (gB (zrS M) (zrG M) q) (rB (zrS M) (zrG M) q) (M 199 1) j = X at *
  generalize gB (zrS M) (zrG M) q = g at *
  generalize rB (zrS M) (zrG M) q = r at *
  have hne := fun v a b => need_ech (q := q) (v := v) hS hG a b
  generalize sNeed (zrS M) (zrG M) q = nd at *
  generalize sWay (zrS M) (zrG M) (zrS M 4 q) 1 = ag at *
  clear hX2
  clear hR hN hS hG hI eS eG
  induction m with
  | zero =>
    intro k hm a
    have e : k = K := by omega
    subst e
    obtain ⟨r1, r2, r3, r4⟩ := step k a (by omega)
    have hec := hec (sum + g h k + X (left - k))
    have hne := hne (sum + g h k + X (left - k)) (by omega) (by omega)
    rw [e254_105]
    generalize (if 0 < sum + g h k + X (left - k) then z32 (sum + g h k + X (left - k) + zrG M 6 0) else 0) = ev at *
    have c : ¬ (ev ≤ ag) := fun z => (hne.mp z) (by omega)
    generalize g h k = gg at *
    generalize X (left - k) = xx at *
    simp (disch := first | assumption | exact zrm0 | exact zrm1 _ | exact zrm2 _ _ | exact zrm3 _ _ _ | exact zrm4 _ _ _ _ | omega) only [m254, ↓k_dp, ↓k_dn, k_dp, k_dn, k_dT, k_dF, k_ip, k_in, if_true, if_false, ne_eq, not_true_eq_false, not_false_eq_true, Int.reduceAdd, zup_a, zup_e, zup_j, z32_id, k_al0, k_ic, k_pI, k_il1, k_v2r, k_ifne, k_ri, k_v2, k_gR, k_iadd, k_ild, k_ildS, k_ildW, k_v3r, k_is2, k_is3, k_il3, k_icgt, k_il2, k_inc3, k_goto, k_icle, k_is4, k_is5, k_is6, k_il6, k_gI, k_icge, k_is7, k_il5, k_il7, k_v4r, k_imul, k_il4, k_isub, k_inc7, k_ist, k_inc6, zb0_some, zb1_some, e254_0, e254_1, e254_2, e254_5, e254_6, e254_7, e254_10, e254_13, e254_14, e254_15, e254_16, e254_17, e254_20, e254_21, e254_22, e254_25, e254_27, e254_28, e254_29, e254_30, e254_31, e254_34, e254_35, e254_36, e254_37, e254_38, e254_41, e254_44, e254_45, e254_46, e254_49, e254_50, e254_51, e254_52, e254_55, e254_56, e254_59, e254_62, e254_65, e254_66, e254_69, e254_72, e254_73, e254_74, e254_75, e254_76, e254_79, e254_80, e254_81, e254_84, e254_85, e254_87, e254_88, e254_90, e254_91, e254_93, e254_95, e254_96, e254_99, e254_102, e254_103, e254_106, e254_108, e254_109, e254_111, e254_112, e254_114, e254_117, e254_118, e254_119, e254_122, e254_125, e254_127, e254_128, e254_129, e254_130, e254_132, e254_133, e254_135, e254_136, e254_137, e254_138, e254_139, e254_142, e254_143, e254_146, e254_149, e254_153, e254_156, e254_158, e254_160, e254_161, e254_163, e254_164, e254_166, e254_167, e254_169, e254_172, e254_173, e254_175, e254_177, e254_179, e254_180, e254_182, e254_185, e254_188, e254_189, e254_190, e254_193, e254_194, e254_195, e254_196, r1, r3, hec]
  | succ m ih =>
    intro k hm a
    obtain ⟨r1, r2, r3, r4⟩ := step k a (by omega)
    have hec := hec (sum + g h k + X (left - k))
    have hne := hne (sum + g h k + X (left - k)) (by omega) (by omega)
    have k5 := k4 k a (by omega)
    rw [← ih (k + 1) (by omega) (by omega), e254_105]
    generalize (if 0 < sum + g h k + X (left - k) then z32 (sum + g h k + X (left - k) + zrG M 6 0) else 0) = ev at *
    have c : ev ≤ ag := hne.mpr (by omega)
    generalize g h k = gg at *
    generalize X (left - k) = xx at *
    simp (disch := first | assumption | exact zrm0 | exact zrm1 _ | exact zrm2 _ _ | exact zrm3 _ _ _ | exact zrm4 _ _ _ _ | omega) only [m254, ↓k_dp, ↓k_dn, k_dp, k_dn, k_dT, k_dF, k_ip, k_in, if_true, if_false, ne_eq, not_true_eq_false, not_false_eq_true, Int.reduceAdd, zup_a, zup_e, zup_j, z32_id, k_al0, k_ic, k_pI, k_il1, k_v2r, k_ifne, k_ri, k_v2, k_gR, k_iadd, k_ild, k_ildS, k_ildW, k_v3r, k_is2, k_is3, k_il3, k_icgt, k_il2, k_inc3, k_goto, k_icle, k_is4, k_is5, k_is6, k_il6, k_gI, k_icge, k_is7, k_il5, k_il7, k_v4r, k_imul, k_il4, k_isub, k_inc7, k_ist, k_inc6, zb0_some, zb1_some, e254_0, e254_1, e254_2, e254_5, e254_6, e254_7, e254_10, e254_13, e254_14, e254_15, e254_16, e254_17, e254_20, e254_21, e254_22, e254_25, e254_27, e254_28, e254_29, e254_30, e254_31, e254_34, e254_35, e254_36, e254_37, e254_38, e254_41, e254_44, e254_45, e254_46, e254_49, e254_50, e254_51, e254_52, e254_55, e254_56, e254_59, e254_62, e254_65, e254_66, e254_69, e254_72, e254_73, e254_74, e254_75, e254_76, e254_79, e254_80, e254_81, e254_84, e254_85, e254_87, e254_88, e254_90, e254_91, e254_93, e254_95, e254_96, e254_99, e254_102, e254_103, e254_106, e254_108, e254_109, e254_111, e254_112, e254_114, e254_117, e254_118, e254_119, e254_122, e254_125, e254_127, e254_128, e254_129, e254_130, e254_132, e254_133, e254_135, e254_136, e254_137, e254_138, e254_139, e254_142, e254_143, e254_146, e254_149, e254_153, e254_156, e254_158, e254_160, e254_161, e254_163, e254_164, e254_166, e254_167, e254_169, e254_172, e254_173, e254_175, e254_177, e254_179, e254_180, e254_182, e254_185, e254_188, e254_189, e254_190, e254_193, e254_194, e254_195, e254_196, r1, r3, hec]
