/-! the reference's orders -/
theorem m256 (ph : Bool) (d : Nat) (a x0 p0 y0 p1 y1 p2 y2 : Int) (M : zM) : zEm ph (d + 1) 256 [(30, a, x0), (0, p0, y0), (0, p1, y1), (0, p2, y2)] M = zEv ph d 256 0 [(30, a, x0), (0, p0, y0), (0, p1, y1), (0, p2, y2), (3, 0, 0), (3, 0, 0), (3, 0, 0)] [] M := rfl
theorem e256_0 (ph : Bool) (d : Nat) (L st : List zV) (M : zM) : zEv ph d 256 0 L st M = zcont ph d 256 (zstep ph (zEm ph d) 2 1 0 [2] L st M) := zEv_step rfl
theorem e256_1 (ph : Bool) (d : Nat) (L st : List zV) (M : zM) : zEv ph d 256 1 L st M = zcont ph d 256 (zstep ph (zEm ph d) 41 4 48 [] L st M) := zEv_step rfl
theorem e256_4 (ph : Bool) (d : Nat) (L st : List zV) (M : zM) : zEv ph d 256 4 L st M = zcont ph d 256 (zstep ph (zEm ph d) 2 5 0 [3] L st M) := zEv_step rfl
theorem e256_5 (ph : Bool) (d : Nat) (L st : List zV) (M : zM) : zEv ph d 256 5 L st M = zcont ph d 256 (zstep ph (zEm ph d) 4 6 0 [0] L st M) := zEv_step rfl
theorem e256_6 (ph : Bool) (d : Nat) (L st : List zV) (M : zM) : zEv ph d 256 6 L st M = zcont ph d 256 (zstep ph (zEm ph d) 60 9 0 [30, 34] L st M) := zEv_step rfl
theorem e256_9 (ph : Bool) (d : Nat) (L st : List zV) (M : zM) : zEv ph d 256 9 L st M = zcont ph d 256 (zstep ph (zEm ph d) 50 12 13 [] L st M) := zEv_step rfl
theorem e256_12 (ph : Bool) (d : Nat) (L st : List zV) (M : zM) : zEv ph d 256 12 L st M = zcont ph d 256 (zstep ph (zEm ph d) 83 13 0 [] L st M) := zEv_step rfl
theorem e256_13 (ph : Bool) (d : Nat) (L st : List zV) (M : zM) : zEv ph d 256 13 L st M = zcont ph d 256 (zstep ph (zEm ph d) 4 14 0 [0] L st M) := zEv_step rfl
theorem e256_14 (ph : Bool) (d : Nat) (L st : List zV) (M : zM) : zEv ph d 256 14 L st M = zcont ph d 256 (zstep ph (zEm ph d) 2 15 0 [3] L st M) := zEv_step rfl
theorem e256_15 (ph : Bool) (d : Nat) (L st : List zV) (M : zM) : zEv ph d 256 15 L st M = zcont ph d 256 (zstep ph (zEm ph d) 65 18 0 [30, 34] L st M) := zEv_step rfl
theorem e256_18 (ph : Bool) (d : Nat) (L st : List zV) (M : zM) : zEv ph d 256 18 L st M = zcont ph d 256 (zstep ph (zEm ph d) 0 19 0 [0] L st M) := zEv_step rfl
theorem e256_19 (ph : Bool) (d : Nat) (L st : List zV) (M : zM) : zEv ph d 256 19 L st M = zcont ph d 256 (zstep ph (zEm ph d) 5 21 0 [4] L st M) := zEv_step rfl
theorem e256_21 (ph : Bool) (d : Nat) (L st : List zV) (M : zM) : zEv ph d 256 21 L st M = zcont ph d 256 (zstep ph (zEm ph d) 2 23 0 [4] L st M) := zEv_step rfl
theorem e256_23 (ph : Bool) (d : Nat) (L st : List zV) (M : zM) : zEv ph d 256 23 L st M = zcont ph d 256 (zstep ph (zEm ph d) 2 24 0 [1] L st M) := zEv_step rfl
theorem e256_24 (ph : Bool) (d : Nat) (L st : List zV) (M : zM) : zEv ph d 256 24 L st M = zcont ph d 256 (zstep ph (zEm ph d) 49 27 47 [] L st M) := zEv_step rfl
theorem e256_27 (ph : Bool) (d : Nat) (L st : List zV) (M : zM) : zEv ph d 256 27 L st M = zcont ph d 256 (zstep ph (zEm ph d) 4 28 0 [0] L st M) := zEv_step rfl
theorem e256_28 (ph : Bool) (d : Nat) (L st : List zV) (M : zM) : zEv ph d 256 28 L st M = zcont ph d 256 (zstep ph (zEm ph d) 62 31 0 [30, 31, 15, 10, 5] L st M) := zEv_step rfl
theorem e256_31 (ph : Bool) (d : Nat) (L st : List zV) (M : zM) : zEv ph d 256 31 L st M = zcont ph d 256 (zstep ph (zEm ph d) 2 33 0 [4] L st M) := zEv_step rfl
theorem e256_33 (ph : Bool) (d : Nat) (L st : List zV) (M : zM) : zEv ph d 256 33 L st M = zcont ph d 256 (zstep ph (zEm ph d) 4 34 0 [0] L st M) := zEv_step rfl
theorem e256_34 (ph : Bool) (d : Nat) (L st : List zV) (M : zM) : zEv ph d 256 34 L st M = zcont ph d 256 (zstep ph (zEm ph d) 62 37 0 [30, 30, 14, 10, 5] L st M) := zEv_step rfl
theorem e256_37 (ph : Bool) (d : Nat) (L st : List zV) (M : zM) : zEv ph d 256 37 L st M = zcont ph d 256 (zstep ph (zEm ph d) 2 39 0 [4] L st M) := zEv_step rfl
theorem e256_39 (ph : Bool) (d : Nat) (L st : List zV) (M : zM) : zEv ph d 256 39 L st M = zcont ph d 256 (zstep ph (zEm ph d) 85 40 0 [] L st M) := zEv_step rfl
theorem e256_40 (ph : Bool) (d : Nat) (L st : List zV) (M : zM) : zEv ph d 256 40 L st M = zcont ph d 256 (zstep ph (zEm ph d) 89 41 0 [] L st M) := zEv_step rfl
theorem e256_41 (ph : Bool) (d : Nat) (L st : List zV) (M : zM) : zEv ph d 256 41 L st M = zcont ph d 256 (zstep ph (zEm ph d) 8 44 0 [4, 1] L st M) := zEv_step rfl
theorem e256_44 (ph : Bool) (d : Nat) (L st : List zV) (M : zM) : zEv ph d 256 44 L st M = zcont ph d 256 (zstep ph (zEm ph d) 52 47 21 [] L st M) := zEv_step rfl
theorem e256_47 (ph : Bool) (d : Nat) (L st : List zV) (M : zM) : zEv ph d 256 47 L st M = zcont ph d 256 (zstep ph (zEm ph d) 83 48 0 [] L st M) := zEv_step rfl
theorem e256_48 (ph : Bool) (d : Nat) (L st : List zV) (M : zM) : zEv ph d 256 48 L st M = zcont ph d 256 (zstep ph (zEm ph d) 0 49 0 [0] L st M) := zEv_step rfl
theorem e256_49 (ph : Bool) (d : Nat) (L st : List zV) (M : zM) : zEv ph d 256 49 L st M = zcont ph d 256 (zstep ph (zEm ph d) 5 51 0 [4] L st M) := zEv_step rfl
theorem e256_51 (ph : Bool) (d : Nat) (L st : List zV) (M : zM) : zEv ph d 256 51 L st M = zcont ph d 256 (zstep ph (zEm ph d) 2 53 0 [4] L st M) := zEv_step rfl
theorem e256_53 (ph : Bool) (d : Nat) (L st : List zV) (M : zM) : zEv ph d 256 53 L st M = zcont ph d 256 (zstep ph (zEm ph d) 0 55 0 [10] L st M) := zEv_step rfl
theorem e256_55 (ph : Bool) (d : Nat) (L st : List zV) (M : zM) : zEv ph d 256 55 L st M = zcont ph d 256 (zstep ph (zEm ph d) 49 58 86 [] L st M) := zEv_step rfl
theorem e256_58 (ph : Bool) (d : Nat) (L st : List zV) (M : zM) : zEv ph d 256 58 L st M = zcont ph d 256 (zstep ph (zEm ph d) 4 59 0 [0] L st M) := zEv_step rfl
theorem e256_59 (ph : Bool) (d : Nat) (L st : List zV) (M : zM) : zEv ph d 256 59 L st M = zcont ph d 256 (zstep ph (zEm ph d) 62 62 0 [30, 32, 16, 10, 50] L st M) := zEv_step rfl
theorem e256_62 (ph : Bool) (d : Nat) (L st : List zV) (M : zM) : zEv ph d 256 62 L st M = zcont ph d 256 (zstep ph (zEm ph d) 0 64 0 [10] L st M) := zEv_step rfl
theorem e256_64 (ph : Bool) (d : Nat) (L st : List zV) (M : zM) : zEv ph d 256 64 L st M = zcont ph d 256 (zstep ph (zEm ph d) 2 65 0 [1] L st M) := zEv_step rfl
theorem e256_65 (ph : Bool) (d : Nat) (L st : List zV) (M : zM) : zEv ph d 256 65 L st M = zcont ph d 256 (zstep ph (zEm ph d) 12 66 0 [] L st M) := zEv_step rfl
theorem e256_66 (ph : Bool) (d : Nat) (L st : List zV) (M : zM) : zEv ph d 256 66 L st M = zcont ph d 256 (zstep ph (zEm ph d) 2 68 0 [4] L st M) := zEv_step rfl
theorem e256_68 (ph : Bool) (d : Nat) (L st : List zV) (M : zM) : zEv ph d 256 68 L st M = zcont ph d 256 (zstep ph (zEm ph d) 10 69 0 [] L st M) := zEv_step rfl
theorem e256_69 (ph : Bool) (d : Nat) (L st : List zV) (M : zM) : zEv ph d 256 69 L st M = zcont ph d 256 (zstep ph (zEm ph d) 4 70 0 [0] L st M) := zEv_step rfl
theorem e256_70 (ph : Bool) (d : Nat) (L st : List zV) (M : zM) : zEv ph d 256 70 L st M = zcont ph d 256 (zstep ph (zEm ph d) 62 73 0 [30, 14, 2, 10, 368] L st M) := zEv_step rfl
theorem e256_73 (ph : Bool) (d : Nat) (L st : List zV) (M : zM) : zEv ph d 256 73 L st M = zcont ph d 256 (zstep ph (zEm ph d) 0 75 0 [81] L st M) := zEv_step rfl
theorem e256_75 (ph : Bool) (d : Nat) (L st : List zV) (M : zM) : zEv ph d 256 75 L st M = zcont ph d 256 (zstep ph (zEm ph d) 2 77 0 [4] L st M) := zEv_step rfl
theorem e256_77 (ph : Bool) (d : Nat) (L st : List zV) (M : zM) : zEv ph d 256 77 L st M = zcont ph d 256 (zstep ph (zEm ph d) 10 78 0 [] L st M) := zEv_step rfl
theorem e256_78 (ph : Bool) (d : Nat) (L st : List zV) (M : zM) : zEv ph d 256 78 L st M = zcont ph d 256 (zstep ph (zEm ph d) 85 79 0 [] L st M) := zEv_step rfl
theorem e256_79 (ph : Bool) (d : Nat) (L st : List zV) (M : zM) : zEv ph d 256 79 L st M = zcont ph d 256 (zstep ph (zEm ph d) 89 80 0 [] L st M) := zEv_step rfl
theorem e256_80 (ph : Bool) (d : Nat) (L st : List zV) (M : zM) : zEv ph d 256 80 L st M = zcont ph d 256 (zstep ph (zEm ph d) 8 83 0 [4, 1] L st M) := zEv_step rfl
theorem e256_83 (ph : Bool) (d : Nat) (L st : List zV) (M : zM) : zEv ph d 256 83 L st M = zcont ph d 256 (zstep ph (zEm ph d) 52 86 51 [] L st M) := zEv_step rfl
theorem e256_86 (ph : Bool) (d : Nat) (L st : List zV) (M : zM) : zEv ph d 256 86 L st M = zcont ph d 256 (zstep ph (zEm ph d) 0 87 0 [0] L st M) := zEv_step rfl
theorem e256_87 (ph : Bool) (d : Nat) (L st : List zV) (M : zM) : zEv ph d 256 87 L st M = zcont ph d 256 (zstep ph (zEm ph d) 5 89 0 [4] L st M) := zEv_step rfl
theorem e256_89 (ph : Bool) (d : Nat) (L st : List zV) (M : zM) : zEv ph d 256 89 L st M = zcont ph d 256 (zstep ph (zEm ph d) 2 91 0 [4] L st M) := zEv_step rfl
theorem e256_91 (ph : Bool) (d : Nat) (L st : List zV) (M : zM) : zEv ph d 256 91 L st M = zcont ph d 256 (zstep ph (zEm ph d) 4 92 0 [0] L st M) := zEv_step rfl
theorem e256_92 (ph : Bool) (d : Nat) (L st : List zV) (M : zM) : zEv ph d 256 92 L st M = zcont ph d 256 (zstep ph (zEm ph d) 62 95 0 [30, 14, 2, 10, 368] L st M) := zEv_step rfl
theorem e256_95 (ph : Bool) (d : Nat) (L st : List zV) (M : zM) : zEv ph d 256 95 L st M = zcont ph d 256 (zstep ph (zEm ph d) 0 96 0 [2] L st M) := zEv_step rfl
theorem e256_96 (ph : Bool) (d : Nat) (L st : List zV) (M : zM) : zEv ph d 256 96 L st M = zcont ph d 256 (zstep ph (zEm ph d) 85 97 0 [] L st M) := zEv_step rfl
theorem e256_97 (ph : Bool) (d : Nat) (L st : List zV) (M : zM) : zEv ph d 256 97 L st M = zcont ph d 256 (zstep ph (zEm ph d) 49 100 210 [] L st M) := zEv_step rfl
theorem e256_100 (ph : Bool) (d : Nat) (L st : List zV) (M : zM) : zEv ph d 256 100 L st M = zcont ph d 256 (zstep ph (zEm ph d) 2 101 0 [2] L st M) := zEv_step rfl
theorem e256_101 (ph : Bool) (d : Nat) (L st : List zV) (M : zM) : zEv ph d 256 101 L st M = zcont ph d 256 (zstep ph (zEm ph d) 2 103 0 [4] L st M) := zEv_step rfl
theorem e256_103 (ph : Bool) (d : Nat) (L st : List zV) (M : zM) : zEv ph d 256 103 L st M = zcont ph d 256 (zstep ph (zEm ph d) 70 106 169 [2, 1, -1] L st M) := zEv_step rfl
theorem e256_106 (ph : Bool) (d : Nat) (L st : List zV) (M : zM) : zEv ph d 256 106 L st M = zcont ph d 256 (zstep ph (zEm ph d) 41 109 112 [] L st M) := zEv_step rfl
theorem e256_109 (ph : Bool) (d : Nat) (L st : List zV) (M : zM) : zEv ph d 256 109 L st M = zcont ph d 256 (zstep ph (zEm ph d) 52 112 204 [] L st M) := zEv_step rfl
theorem e256_112 (ph : Bool) (d : Nat) (L st : List zV) (M : zM) : zEv ph d 256 112 L st M = zcont ph d 256 (zstep ph (zEm ph d) 4 113 0 [0] L st M) := zEv_step rfl
theorem e256_113 (ph : Bool) (d : Nat) (L st : List zV) (M : zM) : zEv ph d 256 113 L st M = zcont ph d 256 (zstep ph (zEm ph d) 62 116 0 [30, 30, 14, 10, 5] L st M) := zEv_step rfl
theorem e256_116 (ph : Bool) (d : Nat) (L st : List zV) (M : zM) : zEv ph d 256 116 L st M = zcont ph d 256 (zstep ph (zEm ph d) 2 117 0 [1] L st M) := zEv_step rfl
theorem e256_117 (ph : Bool) (d : Nat) (L st : List zV) (M : zM) : zEv ph d 256 117 L st M = zcont ph d 256 (zstep ph (zEm ph d) 2 119 0 [4] L st M) := zEv_step rfl
theorem e256_119 (ph : Bool) (d : Nat) (L st : List zV) (M : zM) : zEv ph d 256 119 L st M = zcont ph d 256 (zstep ph (zEm ph d) 89 120 0 [] L st M) := zEv_step rfl
theorem e256_120 (ph : Bool) (d : Nat) (L st : List zV) (M : zM) : zEv ph d 256 120 L st M = zcont ph d 256 (zstep ph (zEm ph d) 4 121 0 [0] L st M) := zEv_step rfl
theorem e256_121 (ph : Bool) (d : Nat) (L st : List zV) (M : zM) : zEv ph d 256 121 L st M = zcont ph d 256 (zstep ph (zEm ph d) 2 123 0 [4] L st M) := zEv_step rfl
theorem e256_123 (ph : Bool) (d : Nat) (L st : List zV) (M : zM) : zEv ph d 256 123 L st M = zcont ph d 256 (zstep ph (zEm ph d) 70 126 214 [2, 1, 30] L st M) := zEv_step rfl
theorem e256_126 (ph : Bool) (d : Nat) (L st : List zV) (M : zM) : zEv ph d 256 126 L st M = zcont ph d 256 (zstep ph (zEm ph d) 5 128 0 [5] L st M) := zEv_step rfl
theorem e256_128 (ph : Bool) (d : Nat) (L st : List zV) (M : zM) : zEv ph d 256 128 L st M = zcont ph d 256 (zstep ph (zEm ph d) 2 130 0 [5] L st M) := zEv_step rfl
theorem e256_130 (ph : Bool) (d : Nat) (L st : List zV) (M : zM) : zEv ph d 256 130 L st M = zcont ph d 256 (zstep ph (zEm ph d) 40 133 139 [] L st M) := zEv_step rfl
theorem e256_133 (ph : Bool) (d : Nat) (L st : List zV) (M : zM) : zEv ph d 256 133 L st M = zcont ph d 256 (zstep ph (zEm ph d) 4 134 0 [0] L st M) := zEv_step rfl
theorem e256_134 (ph : Bool) (d : Nat) (L st : List zV) (M : zM) : zEv ph d 256 134 L st M = zcont ph d 256 (zstep ph (zEm ph d) 2 136 0 [4] L st M) := zEv_step rfl
theorem e256_136 (ph : Bool) (d : Nat) (L st : List zV) (M : zM) : zEv ph d 256 136 L st M = zcont ph d 256 (zstep ph (zEm ph d) 70 139 227 [2, 0, 30] L st M) := zEv_step rfl
theorem e256_139 (ph : Bool) (d : Nat) (L st : List zV) (M : zM) : zEv ph d 256 139 L st M = zcont ph d 256 (zstep ph (zEm ph d) 4 140 0 [0] L st M) := zEv_step rfl
theorem e256_140 (ph : Bool) (d : Nat) (L st : List zV) (M : zM) : zEv ph d 256 140 L st M = zcont ph d 256 (zstep ph (zEm ph d) 2 141 0 [1] L st M) := zEv_step rfl
theorem e256_141 (ph : Bool) (d : Nat) (L st : List zV) (M : zM) : zEv ph d 256 141 L st M = zcont ph d 256 (zstep ph (zEm ph d) 0 142 0 [1] L st M) := zEv_step rfl
theorem e256_142 (ph : Bool) (d : Nat) (L st : List zV) (M : zM) : zEv ph d 256 142 L st M = zcont ph d 256 (zstep ph (zEm ph d) 10 143 0 [] L st M) := zEv_step rfl
theorem e256_143 (ph : Bool) (d : Nat) (L st : List zV) (M : zM) : zEv ph d 256 143 L st M = zcont ph d 256 (zstep ph (zEm ph d) 2 144 0 [2] L st M) := zEv_step rfl
theorem e256_144 (ph : Bool) (d : Nat) (L st : List zV) (M : zM) : zEv ph d 256 144 L st M = zcont ph d 256 (zstep ph (zEm ph d) 0 145 0 [1] L st M) := zEv_step rfl
theorem e256_145 (ph : Bool) (d : Nat) (L st : List zV) (M : zM) : zEv ph d 256 145 L st M = zcont ph d 256 (zstep ph (zEm ph d) 2 147 0 [4] L st M) := zEv_step rfl
theorem e256_147 (ph : Bool) (d : Nat) (L st : List zV) (M : zM) : zEv ph d 256 147 L st M = zcont ph d 256 (zstep ph (zEm ph d) 19 148 0 [] L st M) := zEv_step rfl
theorem e256_148 (ph : Bool) (d : Nat) (L st : List zV) (M : zM) : zEv ph d 256 148 L st M = zcont ph d 256 (zstep ph (zEm ph d) 0 149 0 [-1] L st M) := zEv_step rfl
theorem e256_149 (ph : Bool) (d : Nat) (L st : List zV) (M : zM) : zEv ph d 256 149 L st M = zcont ph d 256 (zstep ph (zEm ph d) 18 150 0 [] L st M) := zEv_step rfl
theorem e256_150 (ph : Bool) (d : Nat) (L st : List zV) (M : zM) : zEv ph d 256 150 L st M = zcont ph d 256 (zstep ph (zEm ph d) 16 151 0 [] L st M) := zEv_step rfl
theorem e256_151 (ph : Bool) (d : Nat) (L st : List zV) (M : zM) : zEv ph d 256 151 L st M = zcont ph d 256 (zstep ph (zEm ph d) 2 153 0 [5] L st M) := zEv_step rfl
theorem e256_153 (ph : Bool) (d : Nat) (L st : List zV) (M : zM) : zEv ph d 256 153 L st M = zcont ph d 256 (zstep ph (zEm ph d) 40 156 162 [] L st M) := zEv_step rfl
theorem e256_156 (ph : Bool) (d : Nat) (L st : List zV) (M : zM) : zEv ph d 256 156 L st M = zcont ph d 256 (zstep ph (zEm ph d) 2 157 0 [3] L st M) := zEv_step rfl
theorem e256_157 (ph : Bool) (d : Nat) (L st : List zV) (M : zM) : zEv ph d 256 157 L st M = zcont ph d 256 (zstep ph (zEm ph d) 0 158 0 [1] L st M) := zEv_step rfl
theorem e256_158 (ph : Bool) (d : Nat) (L st : List zV) (M : zM) : zEv ph d 256 158 L st M = zcont ph d 256 (zstep ph (zEm ph d) 10 159 0 [] L st M) := zEv_step rfl
theorem e256_159 (ph : Bool) (d : Nat) (L st : List zV) (M : zM) : zEv ph d 256 159 L st M = zcont ph d 256 (zstep ph (zEm ph d) 52 162 163 [] L st M) := zEv_step rfl
theorem e256_162 (ph : Bool) (d : Nat) (L st : List zV) (M : zM) : zEv ph d 256 162 L st M = zcont ph d 256 (zstep ph (zEm ph d) 2 163 0 [3] L st M) := zEv_step rfl
theorem e256_163 (ph : Bool) (d : Nat) (L st : List zV) (M : zM) : zEv ph d 256 163 L st M = zcont ph d 256 (zstep ph (zEm ph d) 70 166 256 [4, 0, 30] L st M) := zEv_step rfl
theorem e256_166 (ph : Bool) (d : Nat) (L st : List zV) (M : zM) : zEv ph d 256 166 L st M = zcont ph d 256 (zstep ph (zEm ph d) 0 167 0 [0] L st M) := zEv_step rfl
theorem e256_167 (ph : Bool) (d : Nat) (L st : List zV) (M : zM) : zEv ph d 256 167 L st M = zcont ph d 256 (zstep ph (zEm ph d) 5 169 0 [6] L st M) := zEv_step rfl
theorem e256_169 (ph : Bool) (d : Nat) (L st : List zV) (M : zM) : zEv ph d 256 169 L st M = zcont ph d 256 (zstep ph (zEm ph d) 2 171 0 [6] L st M) := zEv_step rfl
theorem e256_171 (ph : Bool) (d : Nat) (L st : List zV) (M : zM) : zEv ph d 256 171 L st M = zcont ph d 256 (zstep ph (zEm ph d) 0 173 0 [10] L st M) := zEv_step rfl
theorem e256_173 (ph : Bool) (d : Nat) (L st : List zV) (M : zM) : zEv ph d 256 173 L st M = zcont ph d 256 (zstep ph (zEm ph d) 49 176 204 [] L st M) := zEv_step rfl
theorem e256_176 (ph : Bool) (d : Nat) (L st : List zV) (M : zM) : zEv ph d 256 176 L st M = zcont ph d 256 (zstep ph (zEm ph d) 4 177 0 [0] L st M) := zEv_step rfl
theorem e256_177 (ph : Bool) (d : Nat) (L st : List zV) (M : zM) : zEv ph d 256 177 L st M = zcont ph d 256 (zstep ph (zEm ph d) 62 180 0 [30, 14, 2, 10, 368] L st M) := zEv_step rfl
theorem e256_180 (ph : Bool) (d : Nat) (L st : List zV) (M : zM) : zEv ph d 256 180 L st M = zcont ph d 256 (zstep ph (zEm ph d) 0 182 0 [81] L st M) := zEv_step rfl
theorem e256_182 (ph : Bool) (d : Nat) (L st : List zV) (M : zM) : zEv ph d 256 182 L st M = zcont ph d 256 (zstep ph (zEm ph d) 2 184 0 [6] L st M) := zEv_step rfl
theorem e256_184 (ph : Bool) (d : Nat) (L st : List zV) (M : zM) : zEv ph d 256 184 L st M = zcont ph d 256 (zstep ph (zEm ph d) 10 185 0 [] L st M) := zEv_step rfl
theorem e256_185 (ph : Bool) (d : Nat) (L st : List zV) (M : zM) : zEv ph d 256 185 L st M = zcont ph d 256 (zstep ph (zEm ph d) 4 186 0 [0] L st M) := zEv_step rfl
theorem e256_186 (ph : Bool) (d : Nat) (L st : List zV) (M : zM) : zEv ph d 256 186 L st M = zcont ph d 256 (zstep ph (zEm ph d) 62 189 0 [30, 32, 16, 10, 50] L st M) := zEv_step rfl
theorem e256_189 (ph : Bool) (d : Nat) (L st : List zV) (M : zM) : zEv ph d 256 189 L st M = zcont ph d 256 (zstep ph (zEm ph d) 0 191 0 [10] L st M) := zEv_step rfl
theorem e256_191 (ph : Bool) (d : Nat) (L st : List zV) (M : zM) : zEv ph d 256 191 L st M = zcont ph d 256 (zstep ph (zEm ph d) 2 192 0 [1] L st M) := zEv_step rfl
theorem e256_192 (ph : Bool) (d : Nat) (L st : List zV) (M : zM) : zEv ph d 256 192 L st M = zcont ph d 256 (zstep ph (zEm ph d) 12 193 0 [] L st M) := zEv_step rfl
theorem e256_193 (ph : Bool) (d : Nat) (L st : List zV) (M : zM) : zEv ph d 256 193 L st M = zcont ph d 256 (zstep ph (zEm ph d) 2 195 0 [6] L st M) := zEv_step rfl
theorem e256_195 (ph : Bool) (d : Nat) (L st : List zV) (M : zM) : zEv ph d 256 195 L st M = zcont ph d 256 (zstep ph (zEm ph d) 10 196 0 [] L st M) := zEv_step rfl
theorem e256_196 (ph : Bool) (d : Nat) (L st : List zV) (M : zM) : zEv ph d 256 196 L st M = zcont ph d 256 (zstep ph (zEm ph d) 85 197 0 [] L st M) := zEv_step rfl
theorem e256_197 (ph : Bool) (d : Nat) (L st : List zV) (M : zM) : zEv ph d 256 197 L st M = zcont ph d 256 (zstep ph (zEm ph d) 89 198 0 [] L st M) := zEv_step rfl
theorem e256_198 (ph : Bool) (d : Nat) (L st : List zV) (M : zM) : zEv ph d 256 198 L st M = zcont ph d 256 (zstep ph (zEm ph d) 8 201 0 [6, 1] L st M) := zEv_step rfl
theorem e256_201 (ph : Bool) (d : Nat) (L st : List zV) (M : zM) : zEv ph d 256 201 L st M = zcont ph d 256 (zstep ph (zEm ph d) 52 204 169 [] L st M) := zEv_step rfl
theorem e256_204 (ph : Bool) (d : Nat) (L st : List zV) (M : zM) : zEv ph d 256 204 L st M = zcont ph d 256 (zstep ph (zEm ph d) 8 207 0 [4, 1] L st M) := zEv_step rfl
theorem e256_207 (ph : Bool) (d : Nat) (L st : List zV) (M : zM) : zEv ph d 256 207 L st M = zcont ph d 256 (zstep ph (zEm ph d) 52 210 89 [] L st M) := zEv_step rfl
theorem e256_210 (ph : Bool) (d : Nat) (L st : List zV) (M : zM) : zEv ph d 256 210 L st M = zcont ph d 256 (zstep ph (zEm ph d) 83 211 0 [] L st M) := zEv_step rfl
def okBr (N : zM) (n : Int) (b : Int × List Int) : Prop := N 197 34 = b.1 ∧ -1 ≤ b.1 ∧ (0 ≤ b.1 → (b.2.length : Int) = n ∧ zIs (N 212) b.2)
def zFG (x y : Int) : Prop := x = 211 ∨ x = 212 ∨ x = 213 ∨ (x = 197 ∧ y = 34)
def agP (G : zM) (tot : Int) (n : Nat) : Prop := ∀ (D : Nat) (z0 k y1 m y2 c y3 : Int) (P : List Int) (T N : zM) (b : Int × List Int), n + 10 ≤ D → zrG N = G → okG G → okS T → zt T = T → 0 ≤ k → k + n = tot → tot ≤ 5 → 0 ≤ m → m < 32 → pM m = n → (∀ r, 0 ≤ r → r < 5 → zbit m r ≠ 0 → r < N 199 2) → 0 ≤ c → c ≤ k → (P.length : Int) = k → zIs (N 211) P → okBr N tot b → ∃ N', zEm true D 256 [(30, 197, z0), (0, k, y1), (0, m, y2), (0, c, y3)] (zpR N T) = some ((98, 0, 0), zpR N' T) ∧ okBr N' tot (bestL G T c P b (permsM n m)) ∧ (∀ i, i < k → N' 211 i = N 211 i) ∧ (∀ i, i < 10 * k → N' 213 i = N 213 i) ∧ ∀ x y, ¬ zFG x y → N' x y = N x y
theorem r_agLeaf0 (d : Nat) (z0 k y1 y2 c y3 : Int) (T N : zM) (k1 : k ≤ 5) : ∀ (j : Nat) (i : Int) (l5 l6 : zV) (A : zM), i + j = k → 0 ≤ i → (∀ x y, x ≠ 212 → A x y = N x y) → (∀ t, 0 ≤ t → t < i → A 212 t = N 211 t) → ∃ A', zEv true d 256 21 [(30, 197, z0), (0, k, y1), (0, 0, y2), (0, c, y3), (0, i, 0), l5, l6] [] (zpR A T) = some ((98, 0, 0), zpR A' T) ∧ (∀ x y, x ≠ 212 → A' x y = N x y) ∧ (∀ t, 0 ≤ t → t < k → A' 212 t = N 211 t)
  | 0, i, l5, l6, A, hi, i0, h1, h2 => by
    refine ⟨A, ?_, h1, fun t t0 t1 => h2 t t0 (by omega)⟩
    rw [e256_21]
    simp (disch := first | assumption | exact zrm0 | exact zrm1 _ | exact zrm2 _ _ | exact zrm3 _ _ _ | exact zrm4 _ _ _ _ | omega) only [m256, ↓k_dp, ↓k_dn, k_dp, k_dn, k_dT, k_dF, k_ip, k_in, if_true, if_false, ne_eq, not_true_eq_false, not_false_eq_true, Int.reduceAdd, zup_a, zup_e, zup_j, z32_id, k_il2, k_ifne, k_il3, k_al0, k_gI, k_icgt, k_rv, k_pI, k_ic, k_is4, k_il4, k_il1, k_icge, k_gR, k_ild, k_ildS, k_ildW, k_ist, k_inc4, k_goto, k_imul, k_iadd, k_s2r, k_v2r, k_is5, k_il5, k_ifeq, k_v2, k_ishl, k_ixor, k_iand, k_v4, k_is6, k_il6, k_inc6, zb0_some, zb1_some, e256_0, e256_1, e256_4, e256_5, e256_6, e256_9, e256_12, e256_13, e256_14, e256_15, e256_18, e256_19, e256_23, e256_24, e256_27, e256_28, e256_31, e256_33, e256_34, e256_37, e256_39, e256_40, e256_41, e256_44, e256_47, e256_48, e256_49, e256_51, e256_53, e256_55, e256_58, e256_59, e256_62, e256_64, e256_65, e256_66, e256_68, e256_69, e256_70, e256_73, e256_75, e256_77, e256_78, e256_79, e256_80, e256_83, e256_86, e256_87, e256_89, e256_91, e256_92, e256_95, e256_96, e256_97, e256_100, e256_101, e256_103, e256_106, e256_109, e256_112, e256_113, e256_116, e256_117, e256_119, e256_120, e256_121, e256_123, e256_126, e256_128, e256_130, e256_133, e256_134, e256_136, e256_139, e256_140, e256_141, e256_142, e256_143, e256_144, e256_145, e256_147, e256_148, e256_149, e256_150, e256_151, e256_153, e256_156, e256_157, e256_158, e256_159, e256_162, e256_163, e256_166, e256_167, e256_169, e256_171, e256_173, e256_176, e256_177, e256_180, e256_182, e256_184, e256_185, e256_186, e256_189, e256_191, e256_192, e256_193, e256_195, e256_196, e256_197, e256_198, e256_201, e256_204, e256_207, e256_210]
  | j + 1, i, l5, l6, A, hi, i0, h1, h2 => by
    have e : A 211 i = N 211 i := h1 _ _ (by omega)
    obtain ⟨A', a1, a2, a3⟩ := r_agLeaf0 d z0 k y1 y2 c y3 T N k1 j (i + 1) l5 l6 (zup A 212 i (N 211 i)) (by omega) (by omega) (fun x y h => by rw [zup_a h]; exact h1 x y h) (fun t t0 t1 => by
      by_cases ct : t = i
      · rw [ct, zup_e (by omega)]
      · rw [zup_j ct]; exact h2 t t0 (by omega))
    refine ⟨A', ?_, a2, a3⟩
    rw [e256_21]
    simp (disch := first | assumption | exact zrm0 | exact zrm1 _ | exact zrm2 _ _ | exact zrm3 _ _ _ | exact zrm4 _ _ _ _ | omega) only [m256, ↓k_dp, ↓k_dn, k_dp, k_dn, k_dT, k_dF, k_ip, k_in, if_true, if_false, ne_eq, not_true_eq_false, not_false_eq_true, Int.reduceAdd, zup_a, zup_e, zup_j, z32_id, k_il2, k_ifne, k_il3, k_al0, k_gI, k_icgt, k_rv, k_pI, k_ic, k_is4, k_il4, k_il1, k_icge, k_gR, k_ild, k_ildS, k_ildW, k_ist, k_inc4, k_goto, k_imul, k_iadd, k_s2r, k_v2r, k_is5, k_il5, k_ifeq, k_v2, k_ishl, k_ixor, k_iand, k_v4, k_is6, k_il6, k_inc6, zb0_some, zb1_some, e256_0, e256_1, e256_4, e256_5, e256_6, e256_9, e256_12, e256_13, e256_14, e256_15, e256_18, e256_19, e256_23, e256_24, e256_27, e256_28, e256_31, e256_33, e256_34, e256_37, e256_39, e256_40, e256_41, e256_44, e256_47, e256_48, e256_49, e256_51, e256_53, e256_55, e256_58, e256_59, e256_62, e256_64, e256_65, e256_66, e256_68, e256_69, e256_70, e256_73, e256_75, e256_77, e256_78, e256_79, e256_80, e256_83, e256_86, e256_87, e256_89, e256_91, e256_92, e256_95, e256_96, e256_97, e256_100, e256_101, e256_103, e256_106, e256_109, e256_112, e256_113, e256_116, e256_117, e256_119, e256_120, e256_121, e256_123, e256_126, e256_128, e256_130, e256_133, e256_134, e256_136, e256_139, e256_140, e256_141, e256_142, e256_143, e256_144, e256_145, e256_147, e256_148, e256_149, e256_150, e256_151, e256_153, e256_156, e256_157, e256_158, e256_159, e256_162, e256_163, e256_166, e256_167, e256_169, e256_171, e256_173, e256_176, e256_177, e256_180, e256_182, e256_184, e256_185, e256_186, e256_189, e256_191, e256_192, e256_193, e256_195, e256_196, e256_197, e256_198, e256_201, e256_204, e256_207, e256_210, zpR_o, zpR_uo, e]
    exact a1
theorem r_agSave (d : Nat) (z0 k y1 m y2 c y3 : Int) (T N : zM) (k0 : 0 ≤ k) (k1 : k < 5) : ∀ (j : Nat) (i : Int) (l5 l6 : zV) (A : zM), i + j = 10 → 0 ≤ i → (∀ x y, x ≠ 213 → A x y = N x y) → (∀ t, t < 10 * k → A 213 t = N 213 t) → (∀ t, 0 ≤ t → t < i → A 213 (10 * k + t) = T 1 t) → ∃ A', zEv true d 256 51 [(30, 197, z0), (0, k, y1), (0, m, y2), (0, c, y3), (0, i, 0), l5, l6] [] (zpR A T) = zEv true d 256 89 [(30, 197, z0), (0, k, y1), (0, m, y2), (0, c, y3), (0, 0, 0), l5, l6] [] (zpR A' T) ∧ (∀ x y, x ≠ 213 → A' x y = N x y) ∧ (∀ t, t < 10 * k → A' 213 t = N 213 t) ∧ (∀ t, 0 ≤ t → t < 10 → A' 213 (10 * k + t) = T 1 t)
  | 0, i, l5, l6, A, hi, i0, h1, h2, h3 => by
    refine ⟨A, ?_, h1, h2, fun t t0 t1 => h3 t t0 (by omega)⟩
    rw [e256_51]
    simp (disch := first | assumption | exact zrm0 | exact zrm1 _ | exact zrm2 _ _ | exact zrm3 _ _ _ | exact zrm4 _ _ _ _ | omega) only [m256, ↓k_dp, ↓k_dn, k_dp, k_dn, k_dT, k_dF, k_ip, k_in, if_true, if_false, ne_eq, not_true_eq_false, not_false_eq_true, Int.reduceAdd, zup_a, zup_e, zup_j, z32_id, k_il2, k_ifne, k_il3, k_al0, k_gI, k_icgt, k_rv, k_pI, k_ic, k_is4, k_il4, k_il1, k_icge, k_gR, k_ild, k_ildS, k_ildW, k_ist, k_inc4, k_goto, k_imul, k_iadd, k_s2r, k_v2r, k_is5, k_il5, k_ifeq, k_v2, k_ishl, k_ixor, k_iand, k_v4, k_is6, k_il6, k_inc6, zb0_some, zb1_some, e256_0, e256_1, e256_4, e256_5, e256_6, e256_9, e256_12, e256_13, e256_14, e256_15, e256_18, e256_19, e256_21, e256_23, e256_24, e256_27, e256_28, e256_31, e256_33, e256_34, e256_37, e256_39, e256_40, e256_41, e256_44, e256_47, e256_48, e256_49, e256_53, e256_55, e256_58, e256_59, e256_62, e256_64, e256_65, e256_66, e256_68, e256_69, e256_70, e256_73, e256_75, e256_77, e256_78, e256_79, e256_80, e256_83, e256_86, e256_87, e256_91, e256_92, e256_95, e256_96, e256_97, e256_100, e256_101, e256_103, e256_106, e256_109, e256_112, e256_113, e256_116, e256_117, e256_119, e256_120, e256_121, e256_123, e256_126, e256_128, e256_130, e256_133, e256_134, e256_136, e256_139, e256_140, e256_141, e256_142, e256_143, e256_144, e256_145, e256_147, e256_148, e256_149, e256_150, e256_151, e256_153, e256_156, e256_157, e256_158, e256_159, e256_162, e256_163, e256_166, e256_167, e256_169, e256_171, e256_173, e256_176, e256_177, e256_180, e256_182, e256_184, e256_185, e256_186, e256_189, e256_191, e256_192, e256_193, e256_195, e256_196, e256_197, e256_198, e256_201, e256_204, e256_207, e256_210]
  | j + 1, i, l5, l6, A, hi, i0, h1, h2, h3 => by
    obtain ⟨A', a1, a2, a3, a4⟩ := r_agSave d z0 k y1 m y2 c y3 T N k0 k1 j (i + 1) l5 l6 (zup A 213 (10 * k + i) (T 1 i)) (by omega) (by omega) (fun x y h => by rw [zup_a h]; exact h1 x y h) (fun t ht => by rw [zup_j (by omega)]; exact h2 t ht) (fun t t0 t1 => by
      by_cases ct : t = i
      · rw [ct, zup_e (by omega)]
      · rw [zup_j (by omega)]; exact h3 t t0 (by omega))
    refine ⟨A', ?_, a2, a3, a4⟩
    rw [e256_51]
    simp (disch := first | assumption | exact zrm0 | exact zrm1 _ | exact zrm2 _ _ | exact zrm3 _ _ _ | exact zrm4 _ _ _ _ | omega) only [m256, ↓k_dp, ↓k_dn, k_dp, k_dn, k_dT, k_dF, k_ip, k_in, if_true, if_false, ne_eq, not_true_eq_false, not_false_eq_true, Int.reduceAdd, zup_a, zup_e, zup_j, z32_id, k_il2, k_ifne, k_il3, k_al0, k_gI, k_icgt, k_rv, k_pI, k_ic, k_is4, k_il4, k_il1, k_icge, k_gR, k_ild, k_ildS, k_ildW, k_ist, k_inc4, k_goto, k_imul, k_iadd, k_s2r, k_v2r, k_is5, k_il5, k_ifeq, k_v2, k_ishl, k_ixor, k_iand, k_v4, k_is6, k_il6, k_inc6, zb0_some, zb1_some, e256_0, e256_1, e256_4, e256_5, e256_6, e256_9, e256_12, e256_13, e256_14, e256_15, e256_18, e256_19, e256_21, e256_23, e256_24, e256_27, e256_28, e256_31, e256_33, e256_34, e256_37, e256_39, e256_40, e256_41, e256_44, e256_47, e256_48, e256_49, e256_53, e256_55, e256_58, e256_59, e256_62, e256_64, e256_65, e256_66, e256_68, e256_69, e256_70, e256_73, e256_75, e256_77, e256_78, e256_79, e256_80, e256_83, e256_86, e256_87, e256_91, e256_92, e256_95, e256_96, e256_97, e256_100, e256_101, e256_103, e256_106, e256_109, e256_112, e256_113, e256_116, e256_117, e256_119, e256_120, e256_121, e256_123, e256_126, e256_128, e256_130, e256_133, e256_134, e256_136, e256_139, e256_140, e256_141, e256_142, e256_143, e256_144, e256_145, e256_147, e256_148, e256_149, e256_150, e256_151, e256_153, e256_156, e256_157, e256_158, e256_159, e256_162, e256_163, e256_166, e256_167, e256_169, e256_171, e256_173, e256_176, e256_177, e256_180, e256_182, e256_184, e256_185, e256_186, e256_189, e256_191, e256_192, e256_193, e256_195, e256_196, e256_197, e256_198, e256_201, e256_204, e256_207, e256_210, zpR_o, zpR_uo, zpR_1]
    exact a1
theorem r_agBack (d : Nat) (z0 k y1 m y2 c y3 q : Int) (T N : zM) (k0 : 0 ≤ k) (k1 : k < 5) (hN : ∀ t, 0 ≤ t → t < 10 → N 213 (10 * k + t) = T 1 t) : ∀ (j : Nat) (i : Int) (w : Int) (U : zM), i + j = 10 → 0 ≤ i → (∀ x y, ¬ (x = 1 ∧ i ≤ y ∧ y < 10) → U x y = T x y) → zEv true d 256 169 [(30, 197, z0), (0, k, y1), (0, m, y2), (0, c, y3), (0, q, 0), (0, w, 0), (0, i, 0)] [] (zpR N U) = zEv true d 256 204 [(30, 197, z0), (0, k, y1), (0, m, y2), (0, c, y3), (0, q, 0), (0, w, 0), (0, 10, 0)] [] (zpR N T)
  | 0, i, w, U, hi, i0, hU => by
    have e : U = T := by funext x y; exact hU x y (by omega)
    have ei : i = 10 := by omega
    rw [e, ei, e256_169]
    simp (disch := first | assumption | exact zrm0 | exact zrm1 _ | exact zrm2 _ _ | exact zrm3 _ _ _ | exact zrm4 _ _ _ _ | omega) only [m256, ↓k_dp, ↓k_dn, k_dp, k_dn, k_dT, k_dF, k_ip, k_in, if_true, if_false, ne_eq, not_true_eq_false, not_false_eq_true, Int.reduceAdd, zup_a, zup_e, zup_j, z32_id, k_il2, k_ifne, k_il3, k_al0, k_gI, k_icgt, k_rv, k_pI, k_ic, k_is4, k_il4, k_il1, k_icge, k_gR, k_ild, k_ildS, k_ildW, k_ist, k_inc4, k_goto, k_imul, k_iadd, k_s2r, k_v2r, k_is5, k_il5, k_ifeq, k_v2, k_ishl, k_ixor, k_iand, k_v4, k_is6, k_il6, k_inc6, zb0_some, zb1_some, e256_0, e256_1, e256_4, e256_5, e256_6, e256_9, e256_12, e256_13, e256_14, e256_15, e256_18, e256_19, e256_21, e256_23, e256_24, e256_27, e256_28, e256_31, e256_33, e256_34, e256_37, e256_39, e256_40, e256_41, e256_44, e256_47, e256_48, e256_49, e256_51, e256_53, e256_55, e256_58, e256_59, e256_62, e256_64, e256_65, e256_66, e256_68, e256_69, e256_70, e256_73, e256_75, e256_77, e256_78, e256_79, e256_80, e256_83, e256_86, e256_87, e256_89, e256_91, e256_92, e256_95, e256_96, e256_97, e256_100, e256_101, e256_103, e256_106, e256_109, e256_112, e256_113, e256_116, e256_117, e256_119, e256_120, e256_121, e256_123, e256_126, e256_128, e256_130, e256_133, e256_134, e256_136, e256_139, e256_140, e256_141, e256_142, e256_143, e256_144, e256_145, e256_147, e256_148, e256_149, e256_150, e256_151, e256_153, e256_156, e256_157, e256_158, e256_159, e256_162, e256_163, e256_166, e256_167, e256_171, e256_173, e256_176, e256_177, e256_180, e256_182, e256_184, e256_185, e256_186, e256_189, e256_191, e256_192, e256_193, e256_195, e256_196, e256_197, e256_198, e256_201, e256_207, e256_210]
  | j + 1, i, w, U, hi, i0, hU => by
    have h := r_agBack d z0 k y1 m y2 c y3 q T N k0 k1 hN j (i + 1) w (zup U 1 i (T 1 i)) (by omega) (by omega) (fun x y hx => by
      by_cases ct : x = 1 ∧ y = i
      · rw [ct.1, ct.2, zup_e (by omega)]
      · have : zup U 1 i (T 1 i) x y = U x y := by unfold zup; rw [if_neg (fun z => ct ⟨z.1, z.2.1⟩)]
        rw [this]
        exact hU x y (by omega))
    have e : N 213 (10 * k + i) = T 1 i := hN i i0 (by omega)
    rw [← h, e256_169]
    simp (disch := first | assumption | exact zrm0 | exact zrm1 _ | exact zrm2 _ _ | exact zrm3 _ _ _ | exact zrm4 _ _ _ _ | omega) only [m256, ↓k_dp, ↓k_dn, k_dp, k_dn, k_dT, k_dF, k_ip, k_in, if_true, if_false, ne_eq, not_true_eq_false, not_false_eq_true, Int.reduceAdd, zup_a, zup_e, zup_j, z32_id, k_il2, k_ifne, k_il3, k_al0, k_gI, k_icgt, k_rv, k_pI, k_ic, k_is4, k_il4, k_il1, k_icge, k_gR, k_ild, k_ildS, k_ildW, k_ist, k_inc4, k_goto, k_imul, k_iadd, k_s2r, k_v2r, k_is5, k_il5, k_ifeq, k_v2, k_ishl, k_ixor, k_iand, k_v4, k_is6, k_il6, k_inc6, zb0_some, zb1_some, e256_0, e256_1, e256_4, e256_5, e256_6, e256_9, e256_12, e256_13, e256_14, e256_15, e256_18, e256_19, e256_21, e256_23, e256_24, e256_27, e256_28, e256_31, e256_33, e256_34, e256_37, e256_39, e256_40, e256_41, e256_44, e256_47, e256_48, e256_49, e256_51, e256_53, e256_55, e256_58, e256_59, e256_62, e256_64, e256_65, e256_66, e256_68, e256_69, e256_70, e256_73, e256_75, e256_77, e256_78, e256_79, e256_80, e256_83, e256_86, e256_87, e256_89, e256_91, e256_92, e256_95, e256_96, e256_97, e256_100, e256_101, e256_103, e256_106, e256_109, e256_112, e256_113, e256_116, e256_117, e256_119, e256_120, e256_121, e256_123, e256_126, e256_128, e256_130, e256_133, e256_134, e256_136, e256_139, e256_140, e256_141, e256_142, e256_143, e256_144, e256_145, e256_147, e256_148, e256_149, e256_150, e256_151, e256_153, e256_156, e256_157, e256_158, e256_159, e256_162, e256_163, e256_166, e256_167, e256_171, e256_173, e256_176, e256_177, e256_180, e256_182, e256_184, e256_185, e256_186, e256_189, e256_191, e256_192, e256_193, e256_195, e256_196, e256_197, e256_198, e256_201, e256_207, e256_210, zpR_o, zpR_u1, e]
theorem tGrant_out {S G : zM} {q i j : Int} (g : 0 ≤ G 0 7) (h : ¬ (i = 1 ∧ 0 ≤ j ∧ j < G 0 7)) : tGrant S G q i j = S i j := by
  unfold tGrant
  refine zit_inv (fun _ (T : zM) => T i j = S i j) _ _ _ rfl (fun k T k0 k1 hT => ?_)
  have : zup T 1 k (sMin 20 (z32 (T 1 k + G 5 (q * 5 + G 4 k)))) i j = T i j := by unfold zup; rw [if_neg (by omega)]
  rw [this]; exact hT
theorem okBr_eq {N N' : zM} {n : Int} {b : Int × List Int} (h : okBr N n b) (h1 : N' 197 34 = N 197 34) (h2 : N' 212 = N 212) : okBr N' n b := by
  unfold okBr
  rw [h1, h2]
  exact h
def permF (n : Nat) (m q : Int) : List (List Int) := if zbit m q ≠ 0 then (permsM n (clrM m q)).map (fun p => q :: p) else []
theorem bestL_app {G S : zM} {c : Int} {P : List Int} {b : Int × List Int} {ps qs : List (List Int)} : bestL G S c P b (ps ++ qs) = bestL G S c P (bestL G S c P b ps) qs := List.foldl_append ..
theorem bestL_map {G S : zM} {c q : Int} {P : List Int} {b : Int × List Int} {ps : List (List Int)} : bestL G S c P b (ps.map (fun p => q :: p)) = bestL G (if sWould S G q = true then tGrant S G q else S) (if sWould S G q = true then c + 1 else c) (P ++ [q]) b ps := by
  unfold bestL
  rw [List.foldl_map]
  congr 1
  funext b p
  have e1 : P ++ q :: p = P ++ [q] ++ p := by rw [List.append_assoc]; rfl
  rw [e1]
  congr 1
  show c + (if sWould S G q = true then 1 + sVal G (tGrant S G q) p else sVal G S p) = _
  by_cases w : sWould S G q = true
  · rw [if_pos w, if_pos w, if_pos w]; omega
  · rw [if_neg w, if_neg w, if_neg w]
theorem zIs_snoc {R : Int → Int} {P : List Int} {k q : Int} (h : zIs R P) (hk : (P.length : Int) = k) (h2 : R k = q) : zIs R (P ++ [q]) := lM_snoc h hk.symm (fun _ _ _ => rfl) h2
theorem r_agLoop {G : zM} {tot : Int} {n : Nat} (ih : agP G tot n) (e : Nat) (z0 k y1 m y2 c y3 : Int) (P : List Int) (T : zM) (hD : n + 10 ≤ e + 10) (hG : okG G) (hS : okS T) (hz : zt T = T) (k0 : 0 ≤ k) (hk : k + (n + 1) = tot) (ht : tot ≤ 5) (m0 : 0 ≤ m) (m1 : m < 32) (hm : pM m = n + 1) (c0 : 0 ≤ c) (c1 : c ≤ k) (hP : (P.length : Int) = k) : ∀ (j : Nat) (q : Int) (l5 l6 : zV) (N : zM) (b : Int × List Int), q + j = 5 → 0 ≤ q → zrG N = G → (∀ r, 0 ≤ r → r < 5 → zbit m r ≠ 0 → r < N 199 2) → zIs (N 211) P → (∀ t, 0 ≤ t → t < 10 → N 213 (10 * k + t) = T 1 t) → okBr N tot b → ∃ N', zEv true (e + 10) 256 89 [(30, 197, z0), (0, k, y1), (0, m, y2), (0, c, y3), (0, q, 0), l5, l6] [] (zpR N T) = some ((98, 0, 0), zpR N' T) ∧ okBr N' tot (bestL G T c P b (permsQ (permF n m) j q)) ∧ (∀ i, i < k → N' 211 i = N 211 i) ∧ (∀ i, i < 10 * k → N' 213 i = N 213 i) ∧ ∀ x y, ¬ zFG x y → N' x y = N x y
  | 0, q, l5, l6, N, b, hq, q0, hNG, hb, hPN, hI, hB => by
    have h2 := hG.2.2.1
    have eg : G 0 8 = N 199 2 := by rw [← hNG]; exact zrG_08
    rw [eg] at h2
    refine ⟨N, ?_, hB, fun _ _ => rfl, fun _ _ => rfl, fun _ _ _ => rfl⟩
    rw [e256_89]
    simp (disch := first | assumption | exact zrm0 | exact zrm1 _ | exact zrm2 _ _ | exact zrm3 _ _ _ | exact zrm4 _ _ _ _ | omega) only [m256, ↓k_dp, ↓k_dn, k_dp, k_dn, k_dT, k_dF, k_ip, k_in, if_true, if_false, ne_eq, not_true_eq_false, not_false_eq_true, Int.reduceAdd, zup_a, zup_e, zup_j, z32_id, k_il2, k_ifne, k_il3, k_al0, k_gI, k_icgt, k_rv, k_pI, k_ic, k_is4, k_il4, k_il1, k_icge, k_gR, k_ild, k_ildS, k_ildW, k_ist, k_inc4, k_goto, k_imul, k_iadd, k_s2r, k_v2r, k_is5, k_il5, k_ifeq, k_v2, k_ishl, k_ixor, k_iand, k_v4, k_is6, k_il6, k_inc6, zb0_some, zb1_some, e256_0, e256_1, e256_4, e256_5, e256_6, e256_9, e256_12, e256_13, e256_14, e256_15, e256_18, e256_19, e256_21, e256_23, e256_24, e256_27, e256_28, e256_31, e256_33, e256_34, e256_37, e256_39, e256_40, e256_41, e256_44, e256_47, e256_48, e256_49, e256_51, e256_53, e256_55, e256_58, e256_59, e256_62, e256_64, e256_65, e256_66, e256_68, e256_69, e256_70, e256_73, e256_75, e256_77, e256_78, e256_79, e256_80, e256_83, e256_86, e256_87, e256_91, e256_92, e256_95, e256_96, e256_97, e256_100, e256_101, e256_103, e256_106, e256_109, e256_112, e256_113, e256_116, e256_117, e256_119, e256_120, e256_121, e256_123, e256_126, e256_128, e256_130, e256_133, e256_134, e256_136, e256_139, e256_140, e256_141, e256_142, e256_143, e256_144, e256_145, e256_147, e256_148, e256_149, e256_150, e256_151, e256_153, e256_156, e256_157, e256_158, e256_159, e256_162, e256_163, e256_166, e256_167, e256_169, e256_171, e256_173, e256_176, e256_177, e256_180, e256_182, e256_184, e256_185, e256_186, e256_189, e256_191, e256_192, e256_193, e256_195, e256_196, e256_197, e256_198, e256_201, e256_204, e256_207, e256_210, zpR_o]
  | j + 1, q, l5, l6, N, b, hq, q0, hNG, hb, hPN, hI, hB => by
    have h2 := hG.2.2.1
    have eg : G 0 8 = N 199 2 := by rw [← hNG]; exact zrG_08
    rw [eg] at h2
    by_cases cq : q < N 199 2
    · have eP : permsQ (permF n m) (j + 1) q = permF n m q ++ permsQ (permF n m) j (q + 1) := rfl
      rw [eP, bestL_app]
      by_cases cb : zbit m q = 0
      · have e1 : permF n m q = [] := by unfold permF; rw [if_neg (fun z => z cb)]
        obtain ⟨N', a1, a2, a3, a4, a5⟩ := r_agLoop ih e z0 k y1 m y2 c y3 P T hD hG hS hz k0 hk ht m0 m1 hm c0 c1 hP j (q + 1) l5 l6 N b (by omega) (by omega) hNG hb hPN hI hB
        refine ⟨N', ?_, by rw [e1]; exact a2, a3, a4, a5⟩
        rw [e256_89]
        simp (disch := first | assumption | exact zrm0 | exact zrm1 _ | exact zrm2 _ _ | exact zrm3 _ _ _ | exact zrm4 _ _ _ _ | omega) only [m256, ↓k_dp, ↓k_dn, k_dp, k_dn, k_dT, k_dF, k_ip, k_in, if_true, if_false, ne_eq, not_true_eq_false, not_false_eq_true, Int.reduceAdd, zup_a, zup_e, zup_j, z32_id, k_il2, k_ifne, k_il3, k_al0, k_gI, k_icgt, k_rv, k_pI, k_ic, k_is4, k_il4, k_il1, k_icge, k_gR, k_ild, k_ildS, k_ildW, k_ist, k_inc4, k_goto, k_imul, k_iadd, k_s2r, k_v2r, k_is5, k_il5, k_ifeq, k_v2, k_ishl, k_ixor, k_iand, k_v4, k_is6, k_il6, k_inc6, zb0_some, zb1_some, e256_0, e256_1, e256_4, e256_5, e256_6, e256_9, e256_12, e256_13, e256_14, e256_15, e256_18, e256_19, e256_21, e256_23, e256_24, e256_27, e256_28, e256_31, e256_33, e256_34, e256_37, e256_39, e256_40, e256_41, e256_44, e256_47, e256_48, e256_49, e256_51, e256_53, e256_55, e256_58, e256_59, e256_62, e256_64, e256_65, e256_66, e256_68, e256_69, e256_70, e256_73, e256_75, e256_77, e256_78, e256_79, e256_80, e256_83, e256_86, e256_87, e256_91, e256_92, e256_95, e256_96, e256_97, e256_100, e256_101, e256_103, e256_106, e256_109, e256_112, e256_113, e256_116, e256_117, e256_119, e256_120, e256_121, e256_123, e256_126, e256_128, e256_130, e256_133, e256_134, e256_136, e256_139, e256_140, e256_141, e256_142, e256_143, e256_144, e256_145, e256_147, e256_148, e256_149, e256_150, e256_151, e256_153, e256_156, e256_157, e256_158, e256_159, e256_162, e256_163, e256_166, e256_167, e256_169, e256_171, e256_173, e256_176, e256_177, e256_180, e256_182, e256_184, e256_185, e256_186, e256_189, e256_191, e256_192, e256_193, e256_195, e256_196, e256_197, e256_198, e256_201, e256_204, e256_207, e256_210, zpR_o, r_has, cb]
        exact a1
      · have e1 : permF n m q = (permsM n (clrM m q)).map (fun p => q :: p) := by unfold permF; rw [if_pos cb]
        rw [e1, bestL_map]
        obtain ⟨⟨t1, t2⟩, t3, t4⟩ := bitM_t (q := q) m0 m1 q0 (by omega)
        have t3 := t3 cb
        obtain ⟨V, hV⟩ : ∃ V, V = zup N 211 k q := ⟨_, rfl⟩
        have eSV : zrS (zpR V T) = T := by rw [zrS_pR, hz]
        have eGV : zrG (zpR V T) = G := by rw [zrG_pR, hV, zrG_out (Or.inl (by omega))]; exact hNG
        have hw := r_wouldBe (e + 4) z0 q 0 (zpR V T) (by rw [eSV]; exact hS) (by rw [eGV]; exact hG) q0 (by omega)
        rw [eSV, eGV] at hw
        have hgr := r_grant (e + 8) z0 q 0 (zpR V T) (by rw [eGV]; exact hG) q0 (by omega)
        rw [eSV, eGV, zpR_put] at hgr
        obtain ⟨T1, hT1⟩ : ∃ T1, T1 = (if sWould T G q = true then tGrant T G q else T) := ⟨_, rfl⟩
        obtain ⟨c', hc'⟩ : ∃ c', c' = (if sWould T G q = true then c + 1 else c) := ⟨_, rfl⟩
        rw [← hT1, ← hc']
        have hT1S : okS T1 := by rw [hT1]; split; exact okS_grant hS hG q0 (by omega); exact hS
        have hT1z : zt T1 = T1 := by rw [hT1]; split; exact zt_grant hz hG.2.1; exact hz
        have hT1o : ∀ x y, ¬ (x = 1 ∧ 0 ≤ y ∧ y < 10) → T1 x y = T x y := by
          intro x y h
          rw [hT1]
          split
          · exact tGrant_out hG.2.1.1 (by have := hG.2.1.2; omega)
          · rfl
        have hV211 : zIs (V 211) (P ++ [q]) := by
          refine zIs_snoc (k := k) (fun i i0 i1 => ?_) hP (by rw [hV]; exact zup_e (by omega))
          rw [hV, zup_j (by omega)]
          exact hPN i i0 i1
        have hVB : okBr V tot b := okBr_eq hB (by rw [hV]; exact zup_a (by omega)) (by funext t; rw [hV]; exact zup_a (by omega))
        have hVG : zrG V = G := by rw [hV, zrG_out (Or.inl (by omega))]; exact hNG
        have hV2 : V 199 2 = N 199 2 := by rw [hV]; exact zup_a (by omega)
        obtain ⟨W, w1, w2, w3, w4, w5⟩ := ih (e + 10) z0 (k + 1) 0 (clrM m q) 0 c' 0 (P ++ [q]) T1 V b hD hVG hG hT1S hT1z (by omega) (by omega) ht t1 t2 (by omega) (fun r r0 r1 hr => by rw [hV2]; exact hb r r0 r1 (t4 r r0 r1 hr)) (by rw [hc']; split <;> omega) (by rw [hc']; split <;> omega) (by rw [List.length_append]; simp; omega) hV211 hVB
        have hWo : ∀ x y, ¬ zFG x y → W x y = N x y := fun x y h => by
          rw [w5 x y h, hV]
          exact zup_a (fun z => h (Or.inl z))
        have hW211 : ∀ i, i < k → W 211 i = N 211 i := fun i hi => by rw [w3 i (by omega), hV, zup_j (by omega)]
        have hW213 : ∀ i, i < 10 * (k + 1) → W 213 i = N 213 i := fun i hi => by rw [w4 i hi, hV, zup_a (by omega)]
        have hWG : zrG W = G := by rw [← hNG]; exact zrG_eq (fun y _ _ => hWo 199 y (by unfold zFG; omega))
        have hW2 : W 199 2 = N 199 2 := hWo _ _ (by unfold zFG; omega)
        have hbk := r_agBack (e + 10) z0 k y1 m y2 c y3 q T W k0 (by omega) (fun t t0 t1 => by rw [hW213 _ (by omega)]; exact hI t t0 t1) 10 0 (if sWould T G q = true then 1 else 0) T1 (by omega) (Int.le_refl _) hT1o
        obtain ⟨N', a1, a2, a3, a4, a5⟩ := r_agLoop ih e z0 k y1 m y2 c y3 P T hD hG hS hz k0 hk ht m0 m1 hm c0 c1 hP j (q + 1) (0, if sWould T G q = true then 1 else 0, 0) (0, 10, 0) W (bestL G T1 c' (P ++ [q]) b (permsM n (clrM m q))) (by omega) (by omega) hWG (by rw [hW2]; exact hb) (fun i i0 i1 => by rw [hW211 i (by omega)]; exact hPN i i0 i1) (fun t t0 t1 => by rw [hW213 _ (by omega)]; exact hI t t0 t1) w2
        refine ⟨N', ?_, a2, fun i hi => by rw [a3 i hi, hW211 i hi], fun i hi => by rw [a4 i hi, hW213 i (by omega)], fun x y h => by rw [a5 x y h, hWo x y h]⟩
        have hst : zEv true (e + 10) 256 204 [(30, 197, z0), (0, k, y1), (0, m, y2), (0, c, y3), (0, q, 0), (0, if sWould T G q = true then 1 else 0, 0), (0, 10, 0)] [] (zpR W T) = zEv true (e + 10) 256 89 [(30, 197, z0), (0, k, y1), (0, m, y2), (0, c, y3), (0, q + 1, 0), (0, if sWould T G q = true then 1 else 0, 0), (0, 10, 0)] [] (zpR W T) := by
          rw [e256_204]
          simp (disch := first | assumption | exact zrm0 | exact zrm1 _ | exact zrm2 _ _ | exact zrm3 _ _ _ | exact zrm4 _ _ _ _ | omega) only [m256, ↓k_dp, ↓k_dn, k_dp, k_dn, k_dT, k_dF, k_ip, k_in, if_true, if_false, ne_eq, not_true_eq_false, not_false_eq_true, Int.reduceAdd, zup_a, zup_e, zup_j, z32_id, k_il2, k_ifne, k_il3, k_al0, k_gI, k_icgt, k_rv, k_pI, k_ic, k_is4, k_il4, k_il1, k_icge, k_gR, k_ild, k_ildS, k_ildW, k_ist, k_inc4, k_goto, k_imul, k_iadd, k_s2r, k_v2r, k_is5, k_il5, k_ifeq, k_v2, k_ishl, k_ixor, k_iand, k_v4, k_is6, k_il6, k_inc6, zb0_some, zb1_some, e256_0, e256_1, e256_4, e256_5, e256_6, e256_9, e256_12, e256_13, e256_14, e256_15, e256_18, e256_19, e256_21, e256_23, e256_24, e256_27, e256_28, e256_31, e256_33, e256_34, e256_37, e256_39, e256_40, e256_41, e256_44, e256_47, e256_48, e256_49, e256_51, e256_53, e256_55, e256_58, e256_59, e256_62, e256_64, e256_65, e256_66, e256_68, e256_69, e256_70, e256_73, e256_75, e256_77, e256_78, e256_79, e256_80, e256_83, e256_86, e256_87, e256_91, e256_92, e256_95, e256_96, e256_97, e256_100, e256_101, e256_103, e256_106, e256_109, e256_112, e256_113, e256_116, e256_117, e256_119, e256_120, e256_121, e256_123, e256_126, e256_128, e256_130, e256_133, e256_134, e256_136, e256_139, e256_140, e256_141, e256_142, e256_143, e256_144, e256_145, e256_147, e256_148, e256_149, e256_150, e256_151, e256_153, e256_156, e256_157, e256_158, e256_159, e256_162, e256_163, e256_166, e256_167, e256_169, e256_171, e256_173, e256_176, e256_177, e256_180, e256_182, e256_184, e256_185, e256_186, e256_189, e256_191, e256_192, e256_193, e256_195, e256_196, e256_197, e256_198, e256_201, e256_207, e256_210]
        rw [← a1, ← hst, ← hbk, e256_89]
        unfold clrM at w1
        by_cases w : sWould T G q = true
        · rw [if_pos w] at hT1 hc' hw
          rw [← hT1] at hgr
          subst hc'
          simp (disch := first | assumption | exact zrm0 | exact zrm1 _ | exact zrm2 _ _ | exact zrm3 _ _ _ | exact zrm4 _ _ _ _ | omega) only [↓k_dp, ↓k_dn, k_dp, k_dn, k_dT, k_dF, k_ip, k_in, if_true, if_false, ne_eq, not_true_eq_false, not_false_eq_true, Int.reduceAdd, zup_a, zup_e, zup_j, z32_id, k_il2, k_ifne, k_il3, k_al0, k_gI, k_icgt, k_rv, k_pI, k_ic, k_is4, k_il4, k_il1, k_icge, k_gR, k_ild, k_ildS, k_ildW, k_ist, k_inc4, k_goto, k_imul, k_iadd, k_s2r, k_v2r, k_is5, k_il5, k_ifeq, k_v2, k_ishl, k_ixor, k_iand, k_v4, k_is6, k_il6, k_inc6, zb0_some, zb1_some, e256_0, e256_1, e256_4, e256_5, e256_6, e256_9, e256_12, e256_13, e256_14, e256_15, e256_18, e256_19, e256_21, e256_23, e256_24, e256_27, e256_28, e256_31, e256_33, e256_34, e256_37, e256_39, e256_40, e256_41, e256_44, e256_47, e256_48, e256_49, e256_51, e256_53, e256_55, e256_58, e256_59, e256_62, e256_64, e256_65, e256_66, e256_68, e256_69, e256_70, e256_73, e256_75, e256_77, e256_78, e256_79, e256_80, e256_83, e256_86, e256_87, e256_91, e256_92, e256_95, e256_96, e256_97, e256_100, e256_101, e256_103, e256_106, e256_109, e256_112, e256_113, e256_116, e256_117, e256_119, e256_120, e256_121, e256_123, e256_126, e256_128, e256_130, e256_133, e256_134, e256_136, e256_139, e256_140, e256_141, e256_142, e256_143, e256_144, e256_145, e256_147, e256_148, e256_149, e256_150, e256_151, e256_153, e256_156, e256_157, e256_158, e256_159, e256_162, e256_163, e256_166, e256_167, e256_171, e256_173, e256_176, e256_177, e256_180, e256_182, e256_184, e256_185, e256_186, e256_189, e256_191, e256_192, e256_193, e256_195, e256_196, e256_197, e256_198, e256_201, e256_204, e256_207, e256_210, zpR_o, zpR_uo, r_has, cb, hV.symm, hw, w, hgr, w1]
        · rw [if_neg w] at hT1 hc' hw
          subst hc'
          rw [hT1] at w1 ⊢
          simp (disch := first | assumption | exact zrm0 | exact zrm1 _ | exact zrm2 _ _ | exact zrm3 _ _ _ | exact zrm4 _ _ _ _ | omega) only [↓k_dp, ↓k_dn, k_dp, k_dn, k_dT, k_dF, k_ip, k_in, if_true, if_false, ne_eq, not_true_eq_false, not_false_eq_true, Int.reduceAdd, zup_a, zup_e, zup_j, z32_id, k_il2, k_ifne, k_il3, k_al0, k_gI, k_icgt, k_rv, k_pI, k_ic, k_is4, k_il4, k_il1, k_icge, k_gR, k_ild, k_ildS, k_ildW, k_ist, k_inc4, k_goto, k_imul, k_iadd, k_s2r, k_v2r, k_is5, k_il5, k_ifeq, k_v2, k_ishl, k_ixor, k_iand, k_v4, k_is6, k_il6, k_inc6, zb0_some, zb1_some, e256_0, e256_1, e256_4, e256_5, e256_6, e256_9, e256_12, e256_13, e256_14, e256_15, e256_18, e256_19, e256_21, e256_23, e256_24, e256_27, e256_28, e256_31, e256_33, e256_34, e256_37, e256_39, e256_40, e256_41, e256_44, e256_47, e256_48, e256_49, e256_51, e256_53, e256_55, e256_58, e256_59, e256_62, e256_64, e256_65, e256_66, e256_68, e256_69, e256_70, e256_73, e256_75, e256_77, e256_78, e256_79, e256_80, e256_83, e256_86, e256_87, e256_91, e256_92, e256_95, e256_96, e256_97, e256_100, e256_101, e256_103, e256_106, e256_109, e256_112, e256_113, e256_116, e256_117, e256_119, e256_120, e256_121, e256_123, e256_126, e256_128, e256_130, e256_133, e256_134, e256_136, e256_139, e256_140, e256_141, e256_142, e256_143, e256_144, e256_145, e256_147, e256_148, e256_149, e256_150, e256_151, e256_153, e256_156, e256_157, e256_158, e256_159, e256_162, e256_163, e256_166, e256_167, e256_171, e256_173, e256_176, e256_177, e256_180, e256_182, e256_184, e256_185, e256_186, e256_189, e256_191, e256_192, e256_193, e256_195, e256_196, e256_197, e256_198, e256_201, e256_204, e256_207, e256_210, zpR_o, zpR_uo, r_has, cb, hV.symm, hw, w, Bool.false_eq_true, w1]
    · have e1 : permsQ (permF n m) (j + 1) q = [] := permsQ_nil _ _ (fun r h3 h4 => by
        unfold permF
        rw [if_neg]
        intro hr
        have := hb r (by omega) (by omega) hr
        omega)
      refine ⟨N, ?_, by rw [e1]; exact hB, fun _ _ => rfl, fun _ _ => rfl, fun _ _ _ => rfl⟩
      rw [e256_89]
      simp (disch := first | assumption | exact zrm0 | exact zrm1 _ | exact zrm2 _ _ | exact zrm3 _ _ _ | exact zrm4 _ _ _ _ | omega) only [m256, ↓k_dp, ↓k_dn, k_dp, k_dn, k_dT, k_dF, k_ip, k_in, if_true, if_false, ne_eq, not_true_eq_false, not_false_eq_true, Int.reduceAdd, zup_a, zup_e, zup_j, z32_id, k_il2, k_ifne, k_il3, k_al0, k_gI, k_icgt, k_rv, k_pI, k_ic, k_is4, k_il4, k_il1, k_icge, k_gR, k_ild, k_ildS, k_ildW, k_ist, k_inc4, k_goto, k_imul, k_iadd, k_s2r, k_v2r, k_is5, k_il5, k_ifeq, k_v2, k_ishl, k_ixor, k_iand, k_v4, k_is6, k_il6, k_inc6, zb0_some, zb1_some, e256_0, e256_1, e256_4, e256_5, e256_6, e256_9, e256_12, e256_13, e256_14, e256_15, e256_18, e256_19, e256_21, e256_23, e256_24, e256_27, e256_28, e256_31, e256_33, e256_34, e256_37, e256_39, e256_40, e256_41, e256_44, e256_47, e256_48, e256_49, e256_51, e256_53, e256_55, e256_58, e256_59, e256_62, e256_64, e256_65, e256_66, e256_68, e256_69, e256_70, e256_73, e256_75, e256_77, e256_78, e256_79, e256_80, e256_83, e256_86, e256_87, e256_91, e256_92, e256_95, e256_96, e256_97, e256_100, e256_101, e256_103, e256_106, e256_109, e256_112, e256_113, e256_116, e256_117, e256_119, e256_120, e256_121, e256_123, e256_126, e256_128, e256_130, e256_133, e256_134, e256_136, e256_139, e256_140, e256_141, e256_142, e256_143, e256_144, e256_145, e256_147, e256_148, e256_149, e256_150, e256_151, e256_153, e256_156, e256_157, e256_158, e256_159, e256_162, e256_163, e256_166, e256_167, e256_169, e256_171, e256_173, e256_176, e256_177, e256_180, e256_182, e256_184, e256_185, e256_186, e256_189, e256_191, e256_192, e256_193, e256_195, e256_196, e256_197, e256_198, e256_201, e256_204, e256_207, e256_210, zpR_o]
theorem pM_0 {m : Int} (m0 : 0 ≤ m) (m1 : m < 32) : (pM m = 0 → m = 0) ∧ (pM m ≠ 0 → m ≠ 0) := by
  have hk := chkM_t m0 m1
  unfold chkM at hk
  simp only [Bool.and_eq_true, Bool.or_eq_true, decide_eq_true_eq] at hk
  obtain ⟨⟨-, k8⟩, k9⟩ := hk
  exact ⟨fun h => k8.resolve_left (fun z => z h), fun h => k9.resolve_left h⟩
theorem r_agP {G : zM} {tot : Int} : ∀ n, agP G tot n
  | 0 => by
    intro D z0 k y1 m y2 c y3 P T N b hD hNG hG hS hz k0 hk ht m0 m1 hm hb c0 c1 hP hPN hB
    obtain ⟨d, rfl⟩ : ∃ d, D = d + 1 := ⟨D - 1, by omega⟩
    have hm0 := (pM_0 m0 m1).1 hm
    subst hm0
    have e1 : bestL G T c P b (permsM 0 0) = updB b c P := by
      show updB b (c + 0) (P ++ []) = _
      rw [Int.add_zero, List.append_nil]
    rw [e1]
    obtain ⟨hB1, hB2, hB3⟩ := hB
    unfold updB
    by_cases w : b.1 < c
    · rw [if_pos w]
      obtain ⟨A', a1, a2, a3⟩ := r_agLeaf0 d z0 k y1 y2 c y3 T (zup N 197 34 c) (by omega) k.toNat 0 (3, 0, 0) (3, 0, 0) (zup N 197 34 c) (by omega) (Int.le_refl _) (fun _ _ _ => rfl) (fun t t0 t1 => by omega)
      refine ⟨A', ?_, ⟨by rw [a2 _ _ (by omega), zup_e (by omega)], by show -1 ≤ c; omega, fun _ => ⟨by show (P.length : Int) = tot; omega, fun i i0 i1 => ?_⟩⟩, fun i hi => by rw [a2 _ _ (by omega), zup_a (by omega)], fun i hi => by rw [a2 _ _ (by omega), zup_a (by omega)], fun x y h => ?_⟩
      · generalize b.1 = bb at *
        simp (disch := first | assumption | exact zrm0 | exact zrm1 _ | exact zrm2 _ _ | exact zrm3 _ _ _ | exact zrm4 _ _ _ _ | omega) only [m256, ↓k_dp, ↓k_dn, k_dp, k_dn, k_dT, k_dF, k_ip, k_in, if_true, if_false, ne_eq, not_true_eq_false, not_false_eq_true, Int.reduceAdd, zup_a, zup_e, zup_j, z32_id, k_il2, k_ifne, k_il3, k_al0, k_gI, k_icgt, k_rv, k_pI, k_ic, k_is4, k_il4, k_il1, k_icge, k_gR, k_ild, k_ildS, k_ildW, k_ist, k_inc4, k_goto, k_imul, k_iadd, k_s2r, k_v2r, k_is5, k_il5, k_ifeq, k_v2, k_ishl, k_ixor, k_iand, k_v4, k_is6, k_il6, k_inc6, zb0_some, zb1_some, e256_0, e256_1, e256_4, e256_5, e256_6, e256_9, e256_12, e256_13, e256_14, e256_15, e256_18, e256_19, e256_23, e256_24, e256_27, e256_28, e256_31, e256_33, e256_34, e256_37, e256_39, e256_40, e256_41, e256_44, e256_47, e256_48, e256_49, e256_51, e256_53, e256_55, e256_58, e256_59, e256_62, e256_64, e256_65, e256_66, e256_68, e256_69, e256_70, e256_73, e256_75, e256_77, e256_78, e256_79, e256_80, e256_83, e256_86, e256_87, e256_89, e256_91, e256_92, e256_95, e256_96, e256_97, e256_100, e256_101, e256_103, e256_106, e256_109, e256_112, e256_113, e256_116, e256_117, e256_119, e256_120, e256_121, e256_123, e256_126, e256_128, e256_130, e256_133, e256_134, e256_136, e256_139, e256_140, e256_141, e256_142, e256_143, e256_144, e256_145, e256_147, e256_148, e256_149, e256_150, e256_151, e256_153, e256_156, e256_157, e256_158, e256_159, e256_162, e256_163, e256_166, e256_167, e256_169, e256_171, e256_173, e256_176, e256_177, e256_180, e256_182, e256_184, e256_185, e256_186, e256_189, e256_191, e256_192, e256_193, e256_195, e256_196, e256_197, e256_198, e256_201, e256_204, e256_207, e256_210, zpR_o, zpR_uo, hB1]
        exact a1
      · rw [a3 i i0 (by simp at i1; omega), zup_a (by omega)]
        exact hPN i i0 i1
      · unfold zFG at h
        rw [a2 x y (by omega)]
        unfold zup
        rw [if_neg (by omega)]
    · rw [if_neg w]
      refine ⟨N, ?_, ⟨hB1, hB2, hB3⟩, fun _ _ => rfl, fun _ _ => rfl, fun _ _ _ => rfl⟩
      generalize b.1 = bb at *
      simp (disch := first | assumption | exact zrm0 | exact zrm1 _ | exact zrm2 _ _ | exact zrm3 _ _ _ | exact zrm4 _ _ _ _ | omega) only [m256, ↓k_dp, ↓k_dn, k_dp, k_dn, k_dT, k_dF, k_ip, k_in, if_true, if_false, ne_eq, not_true_eq_false, not_false_eq_true, Int.reduceAdd, zup_a, zup_e, zup_j, z32_id, k_il2, k_ifne, k_il3, k_al0, k_gI, k_icgt, k_rv, k_pI, k_ic, k_is4, k_il4, k_il1, k_icge, k_gR, k_ild, k_ildS, k_ildW, k_ist, k_inc4, k_goto, k_imul, k_iadd, k_s2r, k_v2r, k_is5, k_il5, k_ifeq, k_v2, k_ishl, k_ixor, k_iand, k_v4, k_is6, k_il6, k_inc6, zb0_some, zb1_some, e256_0, e256_1, e256_4, e256_5, e256_6, e256_9, e256_12, e256_13, e256_14, e256_15, e256_18, e256_19, e256_23, e256_24, e256_27, e256_28, e256_31, e256_33, e256_34, e256_37, e256_39, e256_40, e256_41, e256_44, e256_47, e256_48, e256_49, e256_51, e256_53, e256_55, e256_58, e256_59, e256_62, e256_64, e256_65, e256_66, e256_68, e256_69, e256_70, e256_73, e256_75, e256_77, e256_78, e256_79, e256_80, e256_83, e256_86, e256_87, e256_89, e256_91, e256_92, e256_95, e256_96, e256_97, e256_100, e256_101, e256_103, e256_106, e256_109, e256_112, e256_113, e256_116, e256_117, e256_119, e256_120, e256_121, e256_123, e256_126, e256_128, e256_130, e256_133, e256_134, e256_136, e256_139, e256_140, e256_141, e256_142, e256_143, e256_144, e256_145, e256_147, e256_148, e256_149, e256_150, e256_151, e256_153, e256_156, e256_157, e256_158, e256_159, e256_162, e256_163, e256_166, e256_167, e256_169, e256_171, e256_173, e256_176, e256_177, e256_180, e256_182, e256_184, e256_185, e256_186, e256_189, e256_191, e256_192, e256_193, e256_195, e256_196, e256_197, e256_198, e256_201, e256_204, e256_207, e256_210, zpR_o, hB1]
  | n + 1 => by
    intro D z0 k y1 m y2 c y3 P T N b hD hNG hG hS hz k0 hk ht m0 m1 hm hb c0 c1 hP hPN hB
    obtain ⟨e, rfl⟩ : ∃ e, D = e + 10 + 1 := ⟨D - 11, by omega⟩
    have hm0 : m ≠ 0 := (pM_0 m0 m1).2 (by omega)
    obtain ⟨A, a1, a2, a3, a4⟩ := r_agSave (e + 10) z0 k y1 m y2 c y3 T N k0 (by omega) 10 0 (3, 0, 0) (3, 0, 0) N (by omega) (Int.le_refl _) (fun _ _ _ => rfl) (fun _ _ => rfl) (fun t t0 t1 => by omega)
    obtain ⟨N', b1, b2, b3, b4, b5⟩ := r_agLoop (r_agP n) e z0 k y1 m y2 c y3 P T (by omega) hG hS hz k0 (by omega) ht m0 m1 (by omega) c0 c1 hP 5 0 (3, 0, 0) (3, 0, 0) A b (by omega) (Int.le_refl _) (by rw [← hNG]; exact zrG_eq (fun y _ _ => a2 _ _ (by omega))) (by rw [a2 _ _ (by omega)]; exact hb) (fun i i0 i1 => by rw [a2 _ _ (by omega)]; exact hPN i i0 i1) a4 (okBr_eq hB (a2 _ _ (by omega)) (by funext t; exact a2 _ _ (by omega)))
    refine ⟨N', ?_, b2, fun i hi => by rw [b3 i hi, a2 _ _ (by omega)], fun i hi => by rw [b4 i hi, a3 i hi], fun x y h => by rw [b5 x y h, a2 x y (fun z => h (Or.inr (Or.inr (Or.inl z))))]⟩
    simp (disch := first | assumption | exact zrm0 | exact zrm1 _ | exact zrm2 _ _ | exact zrm3 _ _ _ | exact zrm4 _ _ _ _ | omega) only [m256, ↓k_dp, ↓k_dn, k_dp, k_dn, k_dT, k_dF, k_ip, k_in, if_true, if_false, ne_eq, not_true_eq_false, not_false_eq_true, Int.reduceAdd, zup_a, zup_e, zup_j, z32_id, k_il2, k_ifne, k_il3, k_al0, k_gI, k_icgt, k_rv, k_pI, k_ic, k_is4, k_il4, k_il1, k_icge, k_gR, k_ild, k_ildS, k_ildW, k_ist, k_inc4, k_goto, k_imul, k_iadd, k_s2r, k_v2r, k_is5, k_il5, k_ifeq, k_v2, k_ishl, k_ixor, k_iand, k_v4, k_is6, k_il6, k_inc6, zb0_some, zb1_some, e256_0, e256_1, e256_4, e256_5, e256_6, e256_9, e256_12, e256_13, e256_14, e256_15, e256_18, e256_19, e256_21, e256_23, e256_24, e256_27, e256_28, e256_31, e256_33, e256_34, e256_37, e256_39, e256_40, e256_41, e256_44, e256_47, e256_48, e256_49, e256_53, e256_55, e256_58, e256_59, e256_62, e256_64, e256_65, e256_66, e256_68, e256_69, e256_70, e256_73, e256_75, e256_77, e256_78, e256_79, e256_80, e256_83, e256_86, e256_87, e256_89, e256_91, e256_92, e256_95, e256_96, e256_97, e256_100, e256_101, e256_103, e256_106, e256_109, e256_112, e256_113, e256_116, e256_117, e256_119, e256_120, e256_121, e256_123, e256_126, e256_128, e256_130, e256_133, e256_134, e256_136, e256_139, e256_140, e256_141, e256_142, e256_143, e256_144, e256_145, e256_147, e256_148, e256_149, e256_150, e256_151, e256_153, e256_156, e256_157, e256_158, e256_159, e256_162, e256_163, e256_166, e256_167, e256_169, e256_171, e256_173, e256_176, e256_177, e256_180, e256_182, e256_184, e256_185, e256_186, e256_189, e256_191, e256_192, e256_193, e256_195, e256_196, e256_197, e256_198, e256_201, e256_204, e256_207, e256_210]
    rw [a1]
    exact b1
