/-! the class reads a token -/
theorem m141 (ph : Bool) (d : Nat) (a x0 : Int) (M : zM) : zEm ph (d + 1) 141 [(27, a, x0)] M = zEv ph d 141 0 [(27, a, x0), (3, 0, 0)] [] M := rfl
theorem e141_0 (ph : Bool) (d : Nat) (L st : List zV) (M : zM) : zEv ph d 141 0 L st M = zcont ph d 141 (zstep ph (zEm ph d) 4 1 0 [0] L st M) := zEv_step rfl
theorem e141_1 (ph : Bool) (d : Nat) (L st : List zV) (M : zM) : zEv ph d 141 1 L st M = zcont ph d 141 (zstep ph (zEm ph d) 77 4 0 [1] L st M) := zEv_step rfl
theorem e141_4 (ph : Bool) (d : Nat) (L st : List zV) (M : zM) : zEv ph d 141 4 L st M = zcont ph d 141 (zstep ph (zEm ph d) 68 7 0 [27, 7] L st M) := zEv_step rfl
theorem e141_7 (ph : Bool) (d : Nat) (L st : List zV) (M : zM) : zEv ph d 141 7 L st M = zcont ph d 141 (zstep ph (zEm ph d) 4 8 0 [0] L st M) := zEv_step rfl
theorem e141_8 (ph : Bool) (d : Nat) (L st : List zV) (M : zM) : zEv ph d 141 8 L st M = zcont ph d 141 (zstep ph (zEm ph d) 1 9 0 [0] L st M) := zEv_step rfl
theorem e141_9 (ph : Bool) (d : Nat) (L st : List zV) (M : zM) : zEv ph d 141 9 L st M = zcont ph d 141 (zstep ph (zEm ph d) 66 12 0 [27, 8] L st M) := zEv_step rfl
theorem e141_12 (ph : Bool) (d : Nat) (L st : List zV) (M : zM) : zEv ph d 141 12 L st M = zcont ph d 141 (zstep ph (zEm ph d) 4 13 0 [0] L st M) := zEv_step rfl
theorem e141_13 (ph : Bool) (d : Nat) (L st : List zV) (M : zM) : zEv ph d 141 13 L st M = zcont ph d 141 (zstep ph (zEm ph d) 0 14 0 [0] L st M) := zEv_step rfl
theorem e141_14 (ph : Bool) (d : Nat) (L st : List zV) (M : zM) : zEv ph d 141 14 L st M = zcont ph d 141 (zstep ph (zEm ph d) 65 17 0 [27, 6] L st M) := zEv_step rfl
theorem e141_17 (ph : Bool) (d : Nat) (L st : List zV) (M : zM) : zEv ph d 141 17 L st M = zcont ph d 141 (zstep ph (zEm ph d) 4 18 0 [0] L st M) := zEv_step rfl
theorem e141_18 (ph : Bool) (d : Nat) (L st : List zV) (M : zM) : zEv ph d 141 18 L st M = zcont ph d 141 (zstep ph (zEm ph d) 0 19 0 [-1] L st M) := zEv_step rfl
theorem e141_19 (ph : Bool) (d : Nat) (L st : List zV) (M : zM) : zEv ph d 141 19 L st M = zcont ph d 141 (zstep ph (zEm ph d) 65 22 0 [27, 9] L st M) := zEv_step rfl
theorem e141_22 (ph : Bool) (d : Nat) (L st : List zV) (M : zM) : zEv ph d 141 22 L st M = zcont ph d 141 (zstep ph (zEm ph d) 4 23 0 [0] L st M) := zEv_step rfl
theorem e141_23 (ph : Bool) (d : Nat) (L st : List zV) (M : zM) : zEv ph d 141 23 L st M = zcont ph d 141 (zstep ph (zEm ph d) 60 26 0 [27, 3] L st M) := zEv_step rfl
theorem e141_26 (ph : Bool) (d : Nat) (L st : List zV) (M : zM) : zEv ph d 141 26 L st M = zcont ph d 141 (zstep ph (zEm ph d) 4 27 0 [0] L st M) := zEv_step rfl
theorem e141_27 (ph : Bool) (d : Nat) (L st : List zV) (M : zM) : zEv ph d 141 27 L st M = zcont ph d 141 (zstep ph (zEm ph d) 60 30 0 [27, 1] L st M) := zEv_step rfl
theorem e141_30 (ph : Bool) (d : Nat) (L st : List zV) (M : zM) : zEv ph d 141 30 L st M = zcont ph d 141 (zstep ph (zEm ph d) 49 33 74 [] L st M) := zEv_step rfl
theorem e141_33 (ph : Bool) (d : Nat) (L st : List zV) (M : zM) : zEv ph d 141 33 L st M = zcont ph d 141 (zstep ph (zEm ph d) 4 34 0 [0] L st M) := zEv_step rfl
theorem e141_34 (ph : Bool) (d : Nat) (L st : List zV) (M : zM) : zEv ph d 141 34 L st M = zcont ph d 141 (zstep ph (zEm ph d) 62 37 0 [27, 0, 1, 10, 940] L st M) := zEv_step rfl
theorem e141_37 (ph : Bool) (d : Nat) (L st : List zV) (M : zM) : zEv ph d 141 37 L st M = zcont ph d 141 (zstep ph (zEm ph d) 4 38 0 [0] L st M) := zEv_step rfl
theorem e141_38 (ph : Bool) (d : Nat) (L st : List zV) (M : zM) : zEv ph d 141 38 L st M = zcont ph d 141 (zstep ph (zEm ph d) 60 41 0 [27, 3] L st M) := zEv_step rfl
theorem e141_41 (ph : Bool) (d : Nat) (L st : List zV) (M : zM) : zEv ph d 141 41 L st M = zcont ph d 141 (zstep ph (zEm ph d) 85 42 0 [] L st M) := zEv_step rfl
theorem e141_42 (ph : Bool) (d : Nat) (L st : List zV) (M : zM) : zEv ph d 141 42 L st M = zcont ph d 141 (zstep ph (zEm ph d) 0 44 0 [32] L st M) := zEv_step rfl
theorem e141_44 (ph : Bool) (d : Nat) (L st : List zV) (M : zM) : zEv ph d 141 44 L st M = zcont ph d 141 (zstep ph (zEm ph d) 46 47 61 [] L st M) := zEv_step rfl
theorem e141_47 (ph : Bool) (d : Nat) (L st : List zV) (M : zM) : zEv ph d 141 47 L st M = zcont ph d 141 (zstep ph (zEm ph d) 4 48 0 [0] L st M) := zEv_step rfl
theorem e141_48 (ph : Bool) (d : Nat) (L st : List zV) (M : zM) : zEv ph d 141 48 L st M = zcont ph d 141 (zstep ph (zEm ph d) 62 51 0 [27, 0, 1, 10, 940] L st M) := zEv_step rfl
theorem e141_51 (ph : Bool) (d : Nat) (L st : List zV) (M : zM) : zEv ph d 141 51 L st M = zcont ph d 141 (zstep ph (zEm ph d) 4 52 0 [0] L st M) := zEv_step rfl
theorem e141_52 (ph : Bool) (d : Nat) (L st : List zV) (M : zM) : zEv ph d 141 52 L st M = zcont ph d 141 (zstep ph (zEm ph d) 60 55 0 [27, 3] L st M) := zEv_step rfl
theorem e141_55 (ph : Bool) (d : Nat) (L st : List zV) (M : zM) : zEv ph d 141 55 L st M = zcont ph d 141 (zstep ph (zEm ph d) 85 56 0 [] L st M) := zEv_step rfl
theorem e141_56 (ph : Bool) (d : Nat) (L st : List zV) (M : zM) : zEv ph d 141 56 L st M = zcont ph d 141 (zstep ph (zEm ph d) 0 58 0 [10] L st M) := zEv_step rfl
theorem e141_58 (ph : Bool) (d : Nat) (L st : List zV) (M : zM) : zEv ph d 141 58 L st M = zcont ph d 141 (zstep ph (zEm ph d) 47 61 74 [] L st M) := zEv_step rfl
theorem e141_61 (ph : Bool) (d : Nat) (L st : List zV) (M : zM) : zEv ph d 141 61 L st M = zcont ph d 141 (zstep ph (zEm ph d) 4 62 0 [0] L st M) := zEv_step rfl
theorem e141_62 (ph : Bool) (d : Nat) (L st : List zV) (M : zM) : zEv ph d 141 62 L st M = zcont ph d 141 (zstep ph (zEm ph d) 36 63 0 [] L st M) := zEv_step rfl
theorem e141_63 (ph : Bool) (d : Nat) (L st : List zV) (M : zM) : zEv ph d 141 63 L st M = zcont ph d 141 (zstep ph (zEm ph d) 60 66 0 [27, 3] L st M) := zEv_step rfl
theorem e141_66 (ph : Bool) (d : Nat) (L st : List zV) (M : zM) : zEv ph d 141 66 L st M = zcont ph d 141 (zstep ph (zEm ph d) 0 67 0 [1] L st M) := zEv_step rfl
theorem e141_67 (ph : Bool) (d : Nat) (L st : List zV) (M : zM) : zEv ph d 141 67 L st M = zcont ph d 141 (zstep ph (zEm ph d) 10 68 0 [] L st M) := zEv_step rfl
theorem e141_68 (ph : Bool) (d : Nat) (L st : List zV) (M : zM) : zEv ph d 141 68 L st M = zcont ph d 141 (zstep ph (zEm ph d) 65 71 0 [27, 3] L st M) := zEv_step rfl
theorem e141_71 (ph : Bool) (d : Nat) (L st : List zV) (M : zM) : zEv ph d 141 71 L st M = zcont ph d 141 (zstep ph (zEm ph d) 52 74 22 [] L st M) := zEv_step rfl
theorem e141_74 (ph : Bool) (d : Nat) (L st : List zV) (M : zM) : zEv ph d 141 74 L st M = zcont ph d 141 (zstep ph (zEm ph d) 4 75 0 [0] L st M) := zEv_step rfl
theorem e141_75 (ph : Bool) (d : Nat) (L st : List zV) (M : zM) : zEv ph d 141 75 L st M = zcont ph d 141 (zstep ph (zEm ph d) 60 78 0 [27, 3] L st M) := zEv_step rfl
theorem e141_78 (ph : Bool) (d : Nat) (L st : List zV) (M : zM) : zEv ph d 141 78 L st M = zcont ph d 141 (zstep ph (zEm ph d) 4 79 0 [0] L st M) := zEv_step rfl
theorem e141_79 (ph : Bool) (d : Nat) (L st : List zV) (M : zM) : zEv ph d 141 79 L st M = zcont ph d 141 (zstep ph (zEm ph d) 60 82 0 [27, 1] L st M) := zEv_step rfl
theorem e141_82 (ph : Bool) (d : Nat) (L st : List zV) (M : zM) : zEv ph d 141 82 L st M = zcont ph d 141 (zstep ph (zEm ph d) 49 85 96 [] L st M) := zEv_step rfl
theorem e141_85 (ph : Bool) (d : Nat) (L st : List zV) (M : zM) : zEv ph d 141 85 L st M = zcont ph d 141 (zstep ph (zEm ph d) 4 86 0 [0] L st M) := zEv_step rfl
theorem e141_86 (ph : Bool) (d : Nat) (L st : List zV) (M : zM) : zEv ph d 141 86 L st M = zcont ph d 141 (zstep ph (zEm ph d) 60 89 0 [27, 3] L st M) := zEv_step rfl
theorem e141_89 (ph : Bool) (d : Nat) (L st : List zV) (M : zM) : zEv ph d 141 89 L st M = zcont ph d 141 (zstep ph (zEm ph d) 4 90 0 [0] L st M) := zEv_step rfl
theorem e141_90 (ph : Bool) (d : Nat) (L st : List zV) (M : zM) : zEv ph d 141 90 L st M = zcont ph d 141 (zstep ph (zEm ph d) 60 93 0 [27, 2] L st M) := zEv_step rfl
theorem e141_93 (ph : Bool) (d : Nat) (L st : List zV) (M : zM) : zEv ph d 141 93 L st M = zcont ph d 141 (zstep ph (zEm ph d) 48 96 117 [] L st M) := zEv_step rfl
theorem e141_96 (ph : Bool) (d : Nat) (L st : List zV) (M : zM) : zEv ph d 141 96 L st M = zcont ph d 141 (zstep ph (zEm ph d) 4 97 0 [0] L st M) := zEv_step rfl
theorem e141_97 (ph : Bool) (d : Nat) (L st : List zV) (M : zM) : zEv ph d 141 97 L st M = zcont ph d 141 (zstep ph (zEm ph d) 0 98 0 [0] L st M) := zEv_step rfl
theorem e141_98 (ph : Bool) (d : Nat) (L st : List zV) (M : zM) : zEv ph d 141 98 L st M = zcont ph d 141 (zstep ph (zEm ph d) 65 101 0 [27, 5] L st M) := zEv_step rfl
theorem e141_101 (ph : Bool) (d : Nat) (L st : List zV) (M : zM) : zEv ph d 141 101 L st M = zcont ph d 141 (zstep ph (zEm ph d) 4 102 0 [0] L st M) := zEv_step rfl
theorem e141_102 (ph : Bool) (d : Nat) (L st : List zV) (M : zM) : zEv ph d 141 102 L st M = zcont ph d 141 (zstep ph (zEm ph d) 4 103 0 [0] L st M) := zEv_step rfl
theorem e141_103 (ph : Bool) (d : Nat) (L st : List zV) (M : zM) : zEv ph d 141 103 L st M = zcont ph d 141 (zstep ph (zEm ph d) 60 106 0 [27, 1] L st M) := zEv_step rfl
theorem e141_106 (ph : Bool) (d : Nat) (L st : List zV) (M : zM) : zEv ph d 141 106 L st M = zcont ph d 141 (zstep ph (zEm ph d) 4 107 0 [0] L st M) := zEv_step rfl
theorem e141_107 (ph : Bool) (d : Nat) (L st : List zV) (M : zM) : zEv ph d 141 107 L st M = zcont ph d 141 (zstep ph (zEm ph d) 60 110 0 [27, 2] L st M) := zEv_step rfl
theorem e141_110 (ph : Bool) (d : Nat) (L st : List zV) (M : zM) : zEv ph d 141 110 L st M = zcont ph d 141 (zstep ph (zEm ph d) 72 113 0 [] L st M) := zEv_step rfl
theorem e141_113 (ph : Bool) (d : Nat) (L st : List zV) (M : zM) : zEv ph d 141 113 L st M = zcont ph d 141 (zstep ph (zEm ph d) 65 116 0 [27, 4] L st M) := zEv_step rfl
theorem e141_116 (ph : Bool) (d : Nat) (L st : List zV) (M : zM) : zEv ph d 141 116 L st M = zcont ph d 141 (zstep ph (zEm ph d) 83 117 0 [] L st M) := zEv_step rfl
theorem e141_117 (ph : Bool) (d : Nat) (L st : List zV) (M : zM) : zEv ph d 141 117 L st M = zcont ph d 141 (zstep ph (zEm ph d) 4 118 0 [0] L st M) := zEv_step rfl
theorem e141_118 (ph : Bool) (d : Nat) (L st : List zV) (M : zM) : zEv ph d 141 118 L st M = zcont ph d 141 (zstep ph (zEm ph d) 4 119 0 [0] L st M) := zEv_step rfl
theorem e141_119 (ph : Bool) (d : Nat) (L st : List zV) (M : zM) : zEv ph d 141 119 L st M = zcont ph d 141 (zstep ph (zEm ph d) 60 122 0 [27, 3] L st M) := zEv_step rfl
theorem e141_122 (ph : Bool) (d : Nat) (L st : List zV) (M : zM) : zEv ph d 141 122 L st M = zcont ph d 141 (zstep ph (zEm ph d) 65 125 0 [27, 4] L st M) := zEv_step rfl
theorem e141_125 (ph : Bool) (d : Nat) (L st : List zV) (M : zM) : zEv ph d 141 125 L st M = zcont ph d 141 (zstep ph (zEm ph d) 4 126 0 [0] L st M) := zEv_step rfl
theorem e141_126 (ph : Bool) (d : Nat) (L st : List zV) (M : zM) : zEv ph d 141 126 L st M = zcont ph d 141 (zstep ph (zEm ph d) 62 129 0 [27, 0, 1, 10, 940] L st M) := zEv_step rfl
theorem e141_129 (ph : Bool) (d : Nat) (L st : List zV) (M : zM) : zEv ph d 141 129 L st M = zcont ph d 141 (zstep ph (zEm ph d) 4 130 0 [0] L st M) := zEv_step rfl
theorem e141_130 (ph : Bool) (d : Nat) (L st : List zV) (M : zM) : zEv ph d 141 130 L st M = zcont ph d 141 (zstep ph (zEm ph d) 60 133 0 [27, 3] L st M) := zEv_step rfl
theorem e141_133 (ph : Bool) (d : Nat) (L st : List zV) (M : zM) : zEv ph d 141 133 L st M = zcont ph d 141 (zstep ph (zEm ph d) 85 134 0 [] L st M) := zEv_step rfl
theorem e141_134 (ph : Bool) (d : Nat) (L st : List zV) (M : zM) : zEv ph d 141 134 L st M = zcont ph d 141 (zstep ph (zEm ph d) 70 137 143 [1, 1, -1] L st M) := zEv_step rfl
theorem e141_137 (ph : Bool) (d : Nat) (L st : List zV) (M : zM) : zEv ph d 141 137 L st M = zcont ph d 141 (zstep ph (zEm ph d) 41 140 155 [] L st M) := zEv_step rfl
theorem e141_140 (ph : Bool) (d : Nat) (L st : List zV) (M : zM) : zEv ph d 141 140 L st M = zcont ph d 141 (zstep ph (zEm ph d) 4 141 0 [0] L st M) := zEv_step rfl
theorem e141_141 (ph : Bool) (d : Nat) (L st : List zV) (M : zM) : zEv ph d 141 141 L st M = zcont ph d 141 (zstep ph (zEm ph d) 62 144 0 [27, 0, 1, 10, 940] L st M) := zEv_step rfl
theorem e141_144 (ph : Bool) (d : Nat) (L st : List zV) (M : zM) : zEv ph d 141 144 L st M = zcont ph d 141 (zstep ph (zEm ph d) 4 145 0 [0] L st M) := zEv_step rfl
theorem e141_145 (ph : Bool) (d : Nat) (L st : List zV) (M : zM) : zEv ph d 141 145 L st M = zcont ph d 141 (zstep ph (zEm ph d) 60 148 0 [27, 3] L st M) := zEv_step rfl
theorem e141_148 (ph : Bool) (d : Nat) (L st : List zV) (M : zM) : zEv ph d 141 148 L st M = zcont ph d 141 (zstep ph (zEm ph d) 85 149 0 [] L st M) := zEv_step rfl
theorem e141_149 (ph : Bool) (d : Nat) (L st : List zV) (M : zM) : zEv ph d 141 149 L st M = zcont ph d 141 (zstep ph (zEm ph d) 70 152 144 [1, 1, -1] L st M) := zEv_step rfl
theorem e141_152 (ph : Bool) (d : Nat) (L st : List zV) (M : zM) : zEv ph d 141 152 L st M = zcont ph d 141 (zstep ph (zEm ph d) 40 155 160 [] L st M) := zEv_step rfl
theorem e141_155 (ph : Bool) (d : Nat) (L st : List zV) (M : zM) : zEv ph d 141 155 L st M = zcont ph d 141 (zstep ph (zEm ph d) 4 156 0 [0] L st M) := zEv_step rfl
theorem e141_156 (ph : Bool) (d : Nat) (L st : List zV) (M : zM) : zEv ph d 141 156 L st M = zcont ph d 141 (zstep ph (zEm ph d) 70 159 142 [1, 0, 27] L st M) := zEv_step rfl
theorem e141_159 (ph : Bool) (d : Nat) (L st : List zV) (M : zM) : zEv ph d 141 159 L st M = zcont ph d 141 (zstep ph (zEm ph d) 83 160 0 [] L st M) := zEv_step rfl
theorem e141_160 (ph : Bool) (d : Nat) (L st : List zV) (M : zM) : zEv ph d 141 160 L st M = zcont ph d 141 (zstep ph (zEm ph d) 97 162 0 [7, 7] L st M) := zEv_step rfl
theorem e141_162 (ph : Bool) (d : Nat) (L st : List zV) (M : zM) : zEv ph d 141 162 L st M = zcont ph d 141 (zstep ph (zEm ph d) 4 163 0 [0] L st M) := zEv_step rfl
theorem e141_163 (ph : Bool) (d : Nat) (L st : List zV) (M : zM) : zEv ph d 141 163 L st M = zcont ph d 141 (zstep ph (zEm ph d) 62 166 0 [27, 0, 1, 10, 940] L st M) := zEv_step rfl
theorem e141_166 (ph : Bool) (d : Nat) (L st : List zV) (M : zM) : zEv ph d 141 166 L st M = zcont ph d 141 (zstep ph (zEm ph d) 4 167 0 [0] L st M) := zEv_step rfl
theorem e141_167 (ph : Bool) (d : Nat) (L st : List zV) (M : zM) : zEv ph d 141 167 L st M = zcont ph d 141 (zstep ph (zEm ph d) 60 170 0 [27, 3] L st M) := zEv_step rfl
theorem e141_170 (ph : Bool) (d : Nat) (L st : List zV) (M : zM) : zEv ph d 141 170 L st M = zcont ph d 141 (zstep ph (zEm ph d) 85 171 0 [] L st M) := zEv_step rfl
theorem e141_171 (ph : Bool) (d : Nat) (L st : List zV) (M : zM) : zEv ph d 141 171 L st M = zcont ph d 141 (zstep ph (zEm ph d) 30 172 0 [] L st M) := zEv_step rfl
theorem e141_172 (ph : Bool) (d : Nat) (L st : List zV) (M : zM) : zEv ph d 141 172 L st M = zcont ph d 141 (zstep ph (zEm ph d) 70 175 325 [2, 1, 8] L st M) := zEv_step rfl
theorem e141_175 (ph : Bool) (d : Nat) (L st : List zV) (M : zM) : zEv ph d 141 175 L st M = zcont ph d 141 (zstep ph (zEm ph d) 42 178 182 [] L st M) := zEv_step rfl
theorem e141_178 (ph : Bool) (d : Nat) (L st : List zV) (M : zM) : zEv ph d 141 178 L st M = zcont ph d 141 (zstep ph (zEm ph d) 0 179 0 [1] L st M) := zEv_step rfl
theorem e141_179 (ph : Bool) (d : Nat) (L st : List zV) (M : zM) : zEv ph d 141 179 L st M = zcont ph d 141 (zstep ph (zEm ph d) 52 182 183 [] L st M) := zEv_step rfl
theorem e141_182 (ph : Bool) (d : Nat) (L st : List zV) (M : zM) : zEv ph d 141 182 L st M = zcont ph d 141 (zstep ph (zEm ph d) 0 183 0 [0] L st M) := zEv_step rfl
theorem e141_183 (ph : Bool) (d : Nat) (L st : List zV) (M : zM) : zEv ph d 141 183 L st M = zcont ph d 141 (zstep ph (zEm ph d) 5 184 0 [1] L st M) := zEv_step rfl
theorem e141_184 (ph : Bool) (d : Nat) (L st : List zV) (M : zM) : zEv ph d 141 184 L st M = zcont ph d 141 (zstep ph (zEm ph d) 4 185 0 [0] L st M) := zEv_step rfl
theorem e141_185 (ph : Bool) (d : Nat) (L st : List zV) (M : zM) : zEv ph d 141 185 L st M = zcont ph d 141 (zstep ph (zEm ph d) 2 186 0 [1] L st M) := zEv_step rfl
theorem e141_186 (ph : Bool) (d : Nat) (L st : List zV) (M : zM) : zEv ph d 141 186 L st M = zcont ph d 141 (zstep ph (zEm ph d) 40 189 193 [] L st M) := zEv_step rfl
theorem e141_189 (ph : Bool) (d : Nat) (L st : List zV) (M : zM) : zEv ph d 141 189 L st M = zcont ph d 141 (zstep ph (zEm ph d) 0 190 0 [4] L st M) := zEv_step rfl
theorem e141_190 (ph : Bool) (d : Nat) (L st : List zV) (M : zM) : zEv ph d 141 190 L st M = zcont ph d 141 (zstep ph (zEm ph d) 52 193 194 [] L st M) := zEv_step rfl
theorem e141_193 (ph : Bool) (d : Nat) (L st : List zV) (M : zM) : zEv ph d 141 193 L st M = zcont ph d 141 (zstep ph (zEm ph d) 0 194 0 [1] L st M) := zEv_step rfl
theorem e141_194 (ph : Bool) (d : Nat) (L st : List zV) (M : zM) : zEv ph d 141 194 L st M = zcont ph d 141 (zstep ph (zEm ph d) 65 197 0 [27, 5] L st M) := zEv_step rfl
theorem e141_197 (ph : Bool) (d : Nat) (L st : List zV) (M : zM) : zEv ph d 141 197 L st M = zcont ph d 141 (zstep ph (zEm ph d) 4 198 0 [0] L st M) := zEv_step rfl
theorem e141_198 (ph : Bool) (d : Nat) (L st : List zV) (M : zM) : zEv ph d 141 198 L st M = zcont ph d 141 (zstep ph (zEm ph d) 2 199 0 [1] L st M) := zEv_step rfl
theorem e141_199 (ph : Bool) (d : Nat) (L st : List zV) (M : zM) : zEv ph d 141 199 L st M = zcont ph d 141 (zstep ph (zEm ph d) 40 202 214 [] L st M) := zEv_step rfl
theorem e141_202 (ph : Bool) (d : Nat) (L st : List zV) (M : zM) : zEv ph d 141 202 L st M = zcont ph d 141 (zstep ph (zEm ph d) 4 203 0 [0] L st M) := zEv_step rfl
theorem e141_203 (ph : Bool) (d : Nat) (L st : List zV) (M : zM) : zEv ph d 141 203 L st M = zcont ph d 141 (zstep ph (zEm ph d) 62 206 0 [27, 0, 1, 10, 940] L st M) := zEv_step rfl
theorem e141_206 (ph : Bool) (d : Nat) (L st : List zV) (M : zM) : zEv ph d 141 206 L st M = zcont ph d 141 (zstep ph (zEm ph d) 4 207 0 [0] L st M) := zEv_step rfl
theorem e141_207 (ph : Bool) (d : Nat) (L st : List zV) (M : zM) : zEv ph d 141 207 L st M = zcont ph d 141 (zstep ph (zEm ph d) 60 210 0 [27, 3] L st M) := zEv_step rfl
theorem e141_210 (ph : Bool) (d : Nat) (L st : List zV) (M : zM) : zEv ph d 141 210 L st M = zcont ph d 141 (zstep ph (zEm ph d) 85 211 0 [] L st M) := zEv_step rfl
theorem e141_211 (ph : Bool) (d : Nat) (L st : List zV) (M : zM) : zEv ph d 141 211 L st M = zcont ph d 141 (zstep ph (zEm ph d) 52 214 215 [] L st M) := zEv_step rfl
theorem e141_214 (ph : Bool) (d : Nat) (L st : List zV) (M : zM) : zEv ph d 141 214 L st M = zcont ph d 141 (zstep ph (zEm ph d) 0 215 0 [-1] L st M) := zEv_step rfl
theorem e141_215 (ph : Bool) (d : Nat) (L st : List zV) (M : zM) : zEv ph d 141 215 L st M = zcont ph d 141 (zstep ph (zEm ph d) 65 218 0 [27, 9] L st M) := zEv_step rfl
theorem e141_218 (ph : Bool) (d : Nat) (L st : List zV) (M : zM) : zEv ph d 141 218 L st M = zcont ph d 141 (zstep ph (zEm ph d) 4 219 0 [0] L st M) := zEv_step rfl
theorem e141_219 (ph : Bool) (d : Nat) (L st : List zV) (M : zM) : zEv ph d 141 219 L st M = zcont ph d 141 (zstep ph (zEm ph d) 36 220 0 [] L st M) := zEv_step rfl
theorem e141_220 (ph : Bool) (d : Nat) (L st : List zV) (M : zM) : zEv ph d 141 220 L st M = zcont ph d 141 (zstep ph (zEm ph d) 60 223 0 [27, 3] L st M) := zEv_step rfl
theorem e141_223 (ph : Bool) (d : Nat) (L st : List zV) (M : zM) : zEv ph d 141 223 L st M = zcont ph d 141 (zstep ph (zEm ph d) 0 224 0 [1] L st M) := zEv_step rfl
theorem e141_224 (ph : Bool) (d : Nat) (L st : List zV) (M : zM) : zEv ph d 141 224 L st M = zcont ph d 141 (zstep ph (zEm ph d) 10 225 0 [] L st M) := zEv_step rfl
theorem e141_225 (ph : Bool) (d : Nat) (L st : List zV) (M : zM) : zEv ph d 141 225 L st M = zcont ph d 141 (zstep ph (zEm ph d) 65 228 0 [27, 3] L st M) := zEv_step rfl
theorem e141_228 (ph : Bool) (d : Nat) (L st : List zV) (M : zM) : zEv ph d 141 228 L st M = zcont ph d 141 (zstep ph (zEm ph d) 83 229 0 [] L st M) := zEv_step rfl
def isB (c : Int) : Prop := c = 32 ∨ c = 10
theorem c_skip (d : Nat) (x0 : Int) (A : zM) (s e : Int) (hs : A 2 1 = s) (s1 : s ≤ 940) (he : e ≤ s) (hend : e = s ∨ ¬ isB (A 3 e)) : ∀ (n : Nat) (q : Int) (N : zM), q + n = e → 0 ≤ q → (∀ i, q ≤ i → i < e → isB (A 3 i)) → N 2 3 = q → (∀ x y, ¬ (x = 2 ∧ y = 3) → N x y = A x y) → ∃ N', zEv true d 141 22 [(27, 2, x0), (3, 0, 0)] [] N = zEv true d 141 74 [(27, 2, x0), (3, 0, 0)] [] N' ∧ N' 2 3 = e ∧ ∀ x y, ¬ (x = 2 ∧ y = 3) → N' x y = A x y
  | 0, q, N, hq, q0, hb, h3, hN => by
    have h1 : N 2 1 = s := by rw [hN _ _ (by omega)]; exact hs
    refine ⟨N, ?_, by omega, hN⟩
    rw [e141_22]
    rcases hend with h | h
    · simp (disch := first | assumption | exact zrm0 | exact zrm1 _ | exact zrm2 _ _ | exact zrm3 _ _ _ | exact zrm4 _ _ _ _ | omega) only [m141, ↓k_dp, ↓k_dn, k_dp, k_dn, k_dT, k_dF, k_ip, k_in, if_true, if_false, ne_eq, not_true_eq_false, not_false_eq_true, Int.reduceAdd, zup_a, zup_e, zup_j, z32_id, k_al0, k_en, k_pE, k_lc, k_pL, k_ic, k_pI, k_gI, k_icge, k_gR, k_ild, k_ildS, k_ildW, k_iceq, k_icne, k_dup, k_iadd, k_goto, k_iclt, k_min, k_rv, k_s1r, k_ifne, k_ifeq, k_v1, k_str, k_i2c, k_v2r, k_iflt, k_is1, k_il1, zb0_some, zb1_some, e141_0, e141_1, e141_4, e141_7, e141_8, e141_9, e141_12, e141_13, e141_14, e141_17, e141_18, e141_19, e141_23, e141_26, e141_27, e141_30, e141_33, e141_34, e141_37, e141_38, e141_41, e141_42, e141_44, e141_47, e141_48, e141_51, e141_52, e141_55, e141_56, e141_58, e141_61, e141_62, e141_63, e141_66, e141_67, e141_68, e141_71, e141_75, e141_78, e141_79, e141_82, e141_85, e141_86, e141_89, e141_90, e141_93, e141_96, e141_97, e141_98, e141_101, e141_102, e141_103, e141_106, e141_107, e141_110, e141_113, e141_116, e141_117, e141_118, e141_119, e141_122, e141_125, e141_126, e141_129, e141_130, e141_133, e141_134, e141_137, e141_140, e141_141, e141_144, e141_145, e141_148, e141_149, e141_152, e141_155, e141_156, e141_159, e141_160, e141_162, e141_163, e141_166, e141_167, e141_170, e141_171, e141_172, e141_175, e141_178, e141_179, e141_182, e141_183, e141_184, e141_185, e141_186, e141_189, e141_190, e141_193, e141_194, e141_197, e141_198, e141_199, e141_202, e141_203, e141_206, e141_207, e141_210, e141_211, e141_214, e141_215, e141_218, e141_219, e141_220, e141_223, e141_224, e141_225, e141_228, h1, h3]
    · unfold isB at h
      have eq : q = e := by omega
      rw [← eq, ← hN _ _ (by omega)] at h
      have a1 : N 3 q ≠ 32 := fun z => h (Or.inl z)
      have a2 : N 3 q ≠ 10 := fun z => h (Or.inr z)
      by_cases c : q < s
      · simp (disch := first | assumption | exact zrm0 | exact zrm1 _ | exact zrm2 _ _ | exact zrm3 _ _ _ | exact zrm4 _ _ _ _ | omega) only [m141, ↓k_dp, ↓k_dn, k_dp, k_dn, k_dT, k_dF, k_ip, k_in, if_true, if_false, ne_eq, not_true_eq_false, not_false_eq_true, Int.reduceAdd, zup_a, zup_e, zup_j, z32_id, k_al0, k_en, k_pE, k_lc, k_pL, k_ic, k_pI, k_gI, k_icge, k_gR, k_ild, k_ildS, k_ildW, k_iceq, k_icne, k_dup, k_iadd, k_goto, k_iclt, k_min, k_rv, k_s1r, k_ifne, k_ifeq, k_v1, k_str, k_i2c, k_v2r, k_iflt, k_is1, k_il1, zb0_some, zb1_some, e141_0, e141_1, e141_4, e141_7, e141_8, e141_9, e141_12, e141_13, e141_14, e141_17, e141_18, e141_19, e141_23, e141_26, e141_27, e141_30, e141_33, e141_34, e141_37, e141_38, e141_41, e141_42, e141_44, e141_47, e141_48, e141_51, e141_52, e141_55, e141_56, e141_58, e141_61, e141_62, e141_63, e141_66, e141_67, e141_68, e141_71, e141_75, e141_78, e141_79, e141_82, e141_85, e141_86, e141_89, e141_90, e141_93, e141_96, e141_97, e141_98, e141_101, e141_102, e141_103, e141_106, e141_107, e141_110, e141_113, e141_116, e141_117, e141_118, e141_119, e141_122, e141_125, e141_126, e141_129, e141_130, e141_133, e141_134, e141_137, e141_140, e141_141, e141_144, e141_145, e141_148, e141_149, e141_152, e141_155, e141_156, e141_159, e141_160, e141_162, e141_163, e141_166, e141_167, e141_170, e141_171, e141_172, e141_175, e141_178, e141_179, e141_182, e141_183, e141_184, e141_185, e141_186, e141_189, e141_190, e141_193, e141_194, e141_197, e141_198, e141_199, e141_202, e141_203, e141_206, e141_207, e141_210, e141_211, e141_214, e141_215, e141_218, e141_219, e141_220, e141_223, e141_224, e141_225, e141_228, h1, h3]
      · simp (disch := first | assumption | exact zrm0 | exact zrm1 _ | exact zrm2 _ _ | exact zrm3 _ _ _ | exact zrm4 _ _ _ _ | omega) only [m141, ↓k_dp, ↓k_dn, k_dp, k_dn, k_dT, k_dF, k_ip, k_in, if_true, if_false, ne_eq, not_true_eq_false, not_false_eq_true, Int.reduceAdd, zup_a, zup_e, zup_j, z32_id, k_al0, k_en, k_pE, k_lc, k_pL, k_ic, k_pI, k_gI, k_icge, k_gR, k_ild, k_ildS, k_ildW, k_iceq, k_icne, k_dup, k_iadd, k_goto, k_iclt, k_min, k_rv, k_s1r, k_ifne, k_ifeq, k_v1, k_str, k_i2c, k_v2r, k_iflt, k_is1, k_il1, zb0_some, zb1_some, e141_0, e141_1, e141_4, e141_7, e141_8, e141_9, e141_12, e141_13, e141_14, e141_17, e141_18, e141_19, e141_23, e141_26, e141_27, e141_30, e141_33, e141_34, e141_37, e141_38, e141_41, e141_42, e141_44, e141_47, e141_48, e141_51, e141_52, e141_55, e141_56, e141_58, e141_61, e141_62, e141_63, e141_66, e141_67, e141_68, e141_71, e141_75, e141_78, e141_79, e141_82, e141_85, e141_86, e141_89, e141_90, e141_93, e141_96, e141_97, e141_98, e141_101, e141_102, e141_103, e141_106, e141_107, e141_110, e141_113, e141_116, e141_117, e141_118, e141_119, e141_122, e141_125, e141_126, e141_129, e141_130, e141_133, e141_134, e141_137, e141_140, e141_141, e141_144, e141_145, e141_148, e141_149, e141_152, e141_155, e141_156, e141_159, e141_160, e141_162, e141_163, e141_166, e141_167, e141_170, e141_171, e141_172, e141_175, e141_178, e141_179, e141_182, e141_183, e141_184, e141_185, e141_186, e141_189, e141_190, e141_193, e141_194, e141_197, e141_198, e141_199, e141_202, e141_203, e141_206, e141_207, e141_210, e141_211, e141_214, e141_215, e141_218, e141_219, e141_220, e141_223, e141_224, e141_225, e141_228, h1, h3]
  | n + 1, q, N, hq, q0, hb, h3, hN => by
    have h1 : N 2 1 = s := by rw [hN _ _ (by omega)]; exact hs
    obtain ⟨N', a1, a2, a3⟩ := c_skip d x0 A s e hs s1 he hend n (q + 1) (zup N 2 3 (q + 1)) (by omega) (by omega) (fun i i0 i1 => hb i (by omega) i1) (zup_e (by omega)) (fun x y h => by
      rw [← hN x y h]
      unfold zup
      rw [if_neg (fun z => h ⟨z.1, z.2.1⟩)])
    refine ⟨N', ?_, a2, a3⟩
    have hc := hb q (Int.le_refl _) (by omega)
    rw [← a1, e141_22]
    unfold isB at hc
    rw [← hN _ _ (by omega)] at hc
    rcases hc with h | h
    · simp (disch := first | assumption | exact zrm0 | exact zrm1 _ | exact zrm2 _ _ | exact zrm3 _ _ _ | exact zrm4 _ _ _ _ | omega) only [m141, ↓k_dp, ↓k_dn, k_dp, k_dn, k_dT, k_dF, k_ip, k_in, if_true, if_false, ne_eq, not_true_eq_false, not_false_eq_true, Int.reduceAdd, zup_a, zup_e, zup_j, z32_id, k_al0, k_en, k_pE, k_lc, k_pL, k_ic, k_pI, k_gI, k_icge, k_gR, k_ild, k_ildS, k_ildW, k_iceq, k_icne, k_dup, k_iadd, k_goto, k_iclt, k_min, k_rv, k_s1r, k_ifne, k_ifeq, k_v1, k_str, k_i2c, k_v2r, k_iflt, k_is1, k_il1, zb0_some, zb1_some, e141_0, e141_1, e141_4, e141_7, e141_8, e141_9, e141_12, e141_13, e141_14, e141_17, e141_18, e141_19, e141_23, e141_26, e141_27, e141_30, e141_33, e141_34, e141_37, e141_38, e141_41, e141_42, e141_44, e141_47, e141_48, e141_51, e141_52, e141_55, e141_56, e141_58, e141_61, e141_62, e141_63, e141_66, e141_67, e141_68, e141_71, e141_75, e141_78, e141_79, e141_82, e141_85, e141_86, e141_89, e141_90, e141_93, e141_96, e141_97, e141_98, e141_101, e141_102, e141_103, e141_106, e141_107, e141_110, e141_113, e141_116, e141_117, e141_118, e141_119, e141_122, e141_125, e141_126, e141_129, e141_130, e141_133, e141_134, e141_137, e141_140, e141_141, e141_144, e141_145, e141_148, e141_149, e141_152, e141_155, e141_156, e141_159, e141_160, e141_162, e141_163, e141_166, e141_167, e141_170, e141_171, e141_172, e141_175, e141_178, e141_179, e141_182, e141_183, e141_184, e141_185, e141_186, e141_189, e141_190, e141_193, e141_194, e141_197, e141_198, e141_199, e141_202, e141_203, e141_206, e141_207, e141_210, e141_211, e141_214, e141_215, e141_218, e141_219, e141_220, e141_223, e141_224, e141_225, e141_228, h1, h3, h]
    · simp (disch := first | assumption | exact zrm0 | exact zrm1 _ | exact zrm2 _ _ | exact zrm3 _ _ _ | exact zrm4 _ _ _ _ | omega) only [m141, ↓k_dp, ↓k_dn, k_dp, k_dn, k_dT, k_dF, k_ip, k_in, if_true, if_false, ne_eq, not_true_eq_false, not_false_eq_true, Int.reduceAdd, zup_a, zup_e, zup_j, z32_id, k_al0, k_en, k_pE, k_lc, k_pL, k_ic, k_pI, k_gI, k_icge, k_gR, k_ild, k_ildS, k_ildW, k_iceq, k_icne, k_dup, k_iadd, k_goto, k_iclt, k_min, k_rv, k_s1r, k_ifne, k_ifeq, k_v1, k_str, k_i2c, k_v2r, k_iflt, k_is1, k_il1, zb0_some, zb1_some, e141_0, e141_1, e141_4, e141_7, e141_8, e141_9, e141_12, e141_13, e141_14, e141_17, e141_18, e141_19, e141_23, e141_26, e141_27, e141_30, e141_33, e141_34, e141_37, e141_38, e141_41, e141_42, e141_44, e141_47, e141_48, e141_51, e141_52, e141_55, e141_56, e141_58, e141_61, e141_62, e141_63, e141_66, e141_67, e141_68, e141_71, e141_75, e141_78, e141_79, e141_82, e141_85, e141_86, e141_89, e141_90, e141_93, e141_96, e141_97, e141_98, e141_101, e141_102, e141_103, e141_106, e141_107, e141_110, e141_113, e141_116, e141_117, e141_118, e141_119, e141_122, e141_125, e141_126, e141_129, e141_130, e141_133, e141_134, e141_137, e141_140, e141_141, e141_144, e141_145, e141_148, e141_149, e141_152, e141_155, e141_156, e141_159, e141_160, e141_162, e141_163, e141_166, e141_167, e141_170, e141_171, e141_172, e141_175, e141_178, e141_179, e141_182, e141_183, e141_184, e141_185, e141_186, e141_189, e141_190, e141_193, e141_194, e141_197, e141_198, e141_199, e141_202, e141_203, e141_206, e141_207, e141_210, e141_211, e141_214, e141_215, e141_218, e141_219, e141_220, e141_223, e141_224, e141_225, e141_228, h1, h3, h]
def isA (c : Int) : Prop := isL c ∨ isD c
def invC (f : Int → Int) (p : Int) (A N : zM) (m : Nat) : Prop := N 2 3 = p + m ∧ (nLf f p m = m → m ≤ 8 → N 2 8 = V32 (RLf f p m)) ∧ (nLf f p m = 0 → m ≤ 3 → N 2 6 = NLf f p m) ∧ ∀ x y, ¬ (x = 2 ∧ (y = 3 ∨ y = 6 ∨ y = 8)) → N x y = A x y
theorem nLf_0 {f : Int → Int} {p : Int} {m : Nat} (ha : ∀ i : Nat, i < m → isA (f (p + i))) (h : nLf f p m = 0) : ∀ i : Nat, i < m → isD (f (p + i)) := fun i hi => by
  rcases ha i hi with h1 | h1
  · exact absurd h1 (nLf_none m h i hi)
  · exact h1
theorem c_run0 (d : Nat) (x0 : Int) (A : zM) (s p e : Int) (hs : A 2 1 = s) (s1 : s ≤ 940) (p0 : 0 ≤ p) (he : e ≤ s) (ha : ∀ i, p ≤ i → i < e → isA (A 3 i)) (hend : e = s ∨ ¬ isA (A 3 e)) : ∀ (n m : Nat) (l3 : zV) (N : zM), p + m + n = e → invC (A 3) p A N m → ∃ (N' : zM) (l3' : zV) (E : Nat), (E : Int) = e - p ∧ zEv true (d + 1) 142 4 [(27, 2, x0), (0, nLf (A 3) p m, 0), (0, m - nLf (A 3) p m, 0), l3] [] N = zEv true (d + 1) 142 131 [(27, 2, x0), (0, nLf (A 3) p E, 0), (0, E - nLf (A 3) p E, 0), l3'] [] N' ∧ invC (A 3) p A N' E
  | 0, m, l3, N, hm, hI => by
    refine ⟨N, l3, m, by omega, ?_, hI⟩
    obtain ⟨i1, -, -, i4⟩ := hI
    have h1 : N 2 1 = s := by rw [i4 _ _ (by omega)]; exact hs
    have hb := nLf_bd (f := A 3) (p := p) m
    generalize nLf (A 3) p m = l at *
    rw [e142_4]
    rcases hend with h | h
    · simp (disch := first | assumption | exact zrm0 | exact zrm1 _ | exact zrm2 _ _ | exact zrm3 _ _ _ | exact zrm4 _ _ _ _ | omega) only [m142, ↓k_dp, ↓k_dn, k_dp, k_dn, k_dT, k_dF, k_ip, k_in, if_true, if_false, ne_eq, not_true_eq_false, not_false_eq_true, Int.reduceAdd, zup_a, zup_e, zup_j, z32_id, k_ic, k_is1, k_is2, k_al0, k_gI, k_icge, k_gR, k_ild, k_ildS, k_ildW, k_s1r, k_ifne, k_ifeq, k_is3, k_il3, k_inc2, k_il2, k_icgt, k_imul, k_iadd, k_isub, k_goto, k_pI, k_inc1, k_il1, k_gL, k_s2r, k_lc, k_pL, k_dup, k_pE, k_rv, zb0_some, zb1_some, e142_0, e142_1, e142_2, e142_3, e142_5, e142_8, e142_9, e142_12, e142_15, e142_16, e142_19, e142_20, e142_23, e142_24, e142_27, e142_30, e142_31, e142_34, e142_35, e142_38, e142_39, e142_42, e142_45, e142_46, e142_49, e142_50, e142_53, e142_54, e142_55, e142_56, e142_59, e142_62, e142_65, e142_66, e142_67, e142_68, e142_71, e142_72, e142_75, e142_77, e142_78, e142_79, e142_80, e142_82, e142_83, e142_86, e142_87, e142_90, e142_93, e142_96, e142_97, e142_98, e142_100, e142_103, e142_104, e142_107, e142_108, e142_111, e142_114, e142_115, e142_118, e142_119, e142_120, e142_123, e142_124, e142_125, e142_128, e142_132, e142_135, e142_136, e142_138, e142_141, e142_142, e142_143, e142_146, e142_147, e142_148, e142_151, e142_154, e142_157, e142_160, e142_161, e142_164, e142_165, e142_166, e142_169, e142_170, e142_171, e142_174, e142_177, e142_178, e142_179, e142_182, h1, i1]
    · by_cases c : p + m < s
      · have eq : p + m = e := by omega
        unfold isA isL isD at h
        rw [← eq, ← i4 _ _ (by omega)] at h
        have a1 : ¬ (97 ≤ N 3 (p + m) ∧ N 3 (p + m) ≤ 122) := fun z => h (Or.inl z)
        have a2 : ¬ (48 ≤ N 3 (p + m) ∧ N 3 (p + m) ≤ 57) := fun z => h (Or.inr z)
        simp (disch := first | assumption | exact zrm0 | exact zrm1 _ | exact zrm2 _ _ | exact zrm3 _ _ _ | exact zrm4 _ _ _ _ | omega) only [m142, ↓k_dp, ↓k_dn, k_dp, k_dn, k_dT, k_dF, k_ip, k_in, if_true, if_false, ne_eq, not_true_eq_false, not_false_eq_true, Int.reduceAdd, zup_a, zup_e, zup_j, z32_id, k_ic, k_is1, k_is2, k_al0, k_gI, k_icge, k_gR, k_ild, k_ildS, k_ildW, k_s1r, k_ifne, k_ifeq, k_is3, k_il3, k_inc2, k_il2, k_icgt, k_imul, k_iadd, k_isub, k_goto, k_pI, k_inc1, k_il1, k_gL, k_s2r, k_lc, k_pL, k_dup, k_pE, k_rv, zb0_some, zb1_some, e142_0, e142_1, e142_2, e142_3, e142_5, e142_8, e142_9, e142_12, e142_15, e142_16, e142_19, e142_20, e142_23, e142_24, e142_27, e142_30, e142_31, e142_34, e142_35, e142_38, e142_39, e142_42, e142_45, e142_46, e142_49, e142_50, e142_53, e142_54, e142_55, e142_56, e142_59, e142_62, e142_65, e142_66, e142_67, e142_68, e142_71, e142_72, e142_75, e142_77, e142_78, e142_79, e142_80, e142_82, e142_83, e142_86, e142_87, e142_90, e142_93, e142_96, e142_97, e142_98, e142_100, e142_103, e142_104, e142_107, e142_108, e142_111, e142_114, e142_115, e142_118, e142_119, e142_120, e142_123, e142_124, e142_125, e142_128, e142_132, e142_135, e142_136, e142_138, e142_141, e142_142, e142_143, e142_146, e142_147, e142_148, e142_151, e142_154, e142_157, e142_160, e142_161, e142_164, e142_165, e142_166, e142_169, e142_170, e142_171, e142_174, e142_177, e142_178, e142_179, e142_182, h1, i1, s_isLetter, s_isDigit, if_neg a1, if_neg a2]
      · simp (disch := first | assumption | exact zrm0 | exact zrm1 _ | exact zrm2 _ _ | exact zrm3 _ _ _ | exact zrm4 _ _ _ _ | omega) only [m142, ↓k_dp, ↓k_dn, k_dp, k_dn, k_dT, k_dF, k_ip, k_in, if_true, if_false, ne_eq, not_true_eq_false, not_false_eq_true, Int.reduceAdd, zup_a, zup_e, zup_j, z32_id, k_ic, k_is1, k_is2, k_al0, k_gI, k_icge, k_gR, k_ild, k_ildS, k_ildW, k_s1r, k_ifne, k_ifeq, k_is3, k_il3, k_inc2, k_il2, k_icgt, k_imul, k_iadd, k_isub, k_goto, k_pI, k_inc1, k_il1, k_gL, k_s2r, k_lc, k_pL, k_dup, k_pE, k_rv, zb0_some, zb1_some, e142_0, e142_1, e142_2, e142_3, e142_5, e142_8, e142_9, e142_12, e142_15, e142_16, e142_19, e142_20, e142_23, e142_24, e142_27, e142_30, e142_31, e142_34, e142_35, e142_38, e142_39, e142_42, e142_45, e142_46, e142_49, e142_50, e142_53, e142_54, e142_55, e142_56, e142_59, e142_62, e142_65, e142_66, e142_67, e142_68, e142_71, e142_72, e142_75, e142_77, e142_78, e142_79, e142_80, e142_82, e142_83, e142_86, e142_87, e142_90, e142_93, e142_96, e142_97, e142_98, e142_100, e142_103, e142_104, e142_107, e142_108, e142_111, e142_114, e142_115, e142_118, e142_119, e142_120, e142_123, e142_124, e142_125, e142_128, e142_132, e142_135, e142_136, e142_138, e142_141, e142_142, e142_143, e142_146, e142_147, e142_148, e142_151, e142_154, e142_157, e142_160, e142_161, e142_164, e142_165, e142_166, e142_169, e142_170, e142_171, e142_174, e142_177, e142_178, e142_179, e142_182, h1, i1]
  | n + 1, m, l3, N, hm, hI => by
    obtain ⟨i1, i2, i3, i4⟩ := hI
    have h1 : N 2 1 = s := by rw [i4 _ _ (by omega)]; exact hs
    have hb := nLf_bd (f := A 3) (p := p) m
    have hc := ha (p + m) (by omega) (by omega)
    have e3 : N 3 (p + m) = A 3 (p + m) := i4 _ _ (by omega)
    have ham : ∀ i : Nat, i < m → isA (A 3 (p + i)) := fun i hi => ha _ (by omega) (by omega)
    have en : nLf (A 3) p (m + 1) = nLf (A 3) p m + zif (isL (A 3 (p + m))) 1 0 := rfl
    have hcast : ((m + 1 : Nat) : Int) = (m : Int) + 1 := by omega
    by_cases cl : isL (A 3 (p + m))
    · rw [zif_t cl] at en
      have cl' := cl
      unfold isL at cl'
      have nd : ¬ (48 ≤ A 3 (p + m) ∧ A 3 (p + m) ≤ 57) := by omega
      by_cases c8 : nLf (A 3) p m + 1 ≤ 8
      · obtain ⟨N', l3', E, a1, a2, a3⟩ := c_run0 d x0 A s p e hs s1 p0 he ha hend n (m + 1) (0, A 3 (p + m), 0) (zup (zup N 2 8 (zlor (zlsl (N 2 8) 5) (z32 (z32 (A 3 (p + m) - 97) + 1)))) 2 3 (p + m + 1)) (by omega) ⟨by rw [zup_e (by omega)]; omega, fun h h8 => by
          have hl : nLf (A 3) p m = m := by omega
          have hR := RLf_ok (f := A 3) (p := p) m (by omega) hl
          have hv := V32_bd hR
          rw [RLf_len] at hv
          have hp : (32 : Int) ^ m ≤ 32 ^ 7 := by
            rcases (show m = 0 ∨ m = 1 ∨ m = 2 ∨ m = 3 ∨ m = 4 ∨ m = 5 ∨ m = 6 ∨ m = 7 by omega) with rfl | rfl | rfl | rfl | rfl | rfl | rfl | rfl <;> decide
          have hp2 : (32 : Int) ^ 7 = 34359738368 := by decide
          rw [zup_j (by omega), zup_e (by omega), i2 hl (by omega), addL hv.1 (by omega) cl'.1 cl'.2]
          rfl, fun h _ => by omega, fun x y h => by
          rw [← i4 x y h]
          unfold zup
          rw [if_neg (by omega), if_neg (by omega)]⟩
        refine ⟨N', l3', E, a1, ?_, a3⟩
        rw [← a2, en, hcast, show (m : Int) + 1 - (nLf (A 3) p m + 1) = m - nLf (A 3) p m by omega]
        generalize nLf (A 3) p m = l at *
        rw [e142_4]
        simp (disch := first | assumption | exact zrm0 | exact zrm1 _ | exact zrm2 _ _ | exact zrm3 _ _ _ | exact zrm4 _ _ _ _ | omega) only [m142, ↓k_dp, ↓k_dn, k_dp, k_dn, k_dT, k_dF, k_ip, k_in, if_true, if_false, ne_eq, not_true_eq_false, not_false_eq_true, Int.reduceAdd, zup_a, zup_e, zup_j, z32_id, k_ic, k_is1, k_is2, k_al0, k_gI, k_icge, k_gR, k_ild, k_ildS, k_ildW, k_s1r, k_ifne, k_ifeq, k_is3, k_il3, k_inc2, k_il2, k_icgt, k_imul, k_iadd, k_isub, k_goto, k_pI, k_inc1, k_il1, k_gL, k_s2r, k_lc, k_pL, k_dup, k_pE, k_rv, zb0_some, zb1_some, e142_0, e142_1, e142_2, e142_3, e142_5, e142_8, e142_9, e142_12, e142_15, e142_16, e142_19, e142_20, e142_23, e142_24, e142_27, e142_30, e142_31, e142_34, e142_35, e142_38, e142_39, e142_42, e142_45, e142_46, e142_49, e142_50, e142_53, e142_54, e142_55, e142_56, e142_59, e142_62, e142_65, e142_66, e142_67, e142_68, e142_71, e142_72, e142_75, e142_77, e142_78, e142_79, e142_80, e142_82, e142_83, e142_86, e142_87, e142_90, e142_93, e142_96, e142_97, e142_98, e142_100, e142_103, e142_104, e142_107, e142_108, e142_111, e142_114, e142_115, e142_118, e142_119, e142_120, e142_123, e142_124, e142_125, e142_128, e142_132, e142_135, e142_136, e142_138, e142_141, e142_142, e142_143, e142_146, e142_147, e142_148, e142_151, e142_154, e142_157, e142_160, e142_161, e142_164, e142_165, e142_166, e142_169, e142_170, e142_171, e142_174, e142_177, e142_178, e142_179, e142_182, h1, i1, e3, s_isLetter, s_isDigit, if_pos cl', if_neg nd, s_addLetter]
      · obtain ⟨N', l3', E, a1, a2, a3⟩ := c_run0 d x0 A s p e hs s1 p0 he ha hend n (m + 1) (0, A 3 (p + m), 0) (zup (zup N 2 8 0) 2 3 (p + m + 1)) (by omega) ⟨by rw [zup_e (by omega)]; omega, fun h h8 => by omega, fun h _ => by omega, fun x y h => by
          rw [← i4 x y h]
          unfold zup
          rw [if_neg (by omega), if_neg (by omega)]⟩
        refine ⟨N', l3', E, a1, ?_, a3⟩
        rw [← a2, en, hcast, show (m : Int) + 1 - (nLf (A 3) p m + 1) = m - nLf (A 3) p m by omega]
        generalize nLf (A 3) p m = l at *
        rw [e142_4]
        simp (disch := first | assumption | exact zrm0 | exact zrm1 _ | exact zrm2 _ _ | exact zrm3 _ _ _ | exact zrm4 _ _ _ _ | omega) only [m142, ↓k_dp, ↓k_dn, k_dp, k_dn, k_dT, k_dF, k_ip, k_in, if_true, if_false, ne_eq, not_true_eq_false, not_false_eq_true, Int.reduceAdd, zup_a, zup_e, zup_j, z32_id, k_ic, k_is1, k_is2, k_al0, k_gI, k_icge, k_gR, k_ild, k_ildS, k_ildW, k_s1r, k_ifne, k_ifeq, k_is3, k_il3, k_inc2, k_il2, k_icgt, k_imul, k_iadd, k_isub, k_goto, k_pI, k_inc1, k_il1, k_gL, k_s2r, k_lc, k_pL, k_dup, k_pE, k_rv, zb0_some, zb1_some, e142_0, e142_1, e142_2, e142_3, e142_5, e142_8, e142_9, e142_12, e142_15, e142_16, e142_19, e142_20, e142_23, e142_24, e142_27, e142_30, e142_31, e142_34, e142_35, e142_38, e142_39, e142_42, e142_45, e142_46, e142_49, e142_50, e142_53, e142_54, e142_55, e142_56, e142_59, e142_62, e142_65, e142_66, e142_67, e142_68, e142_71, e142_72, e142_75, e142_77, e142_78, e142_79, e142_80, e142_82, e142_83, e142_86, e142_87, e142_90, e142_93, e142_96, e142_97, e142_98, e142_100, e142_103, e142_104, e142_107, e142_108, e142_111, e142_114, e142_115, e142_118, e142_119, e142_120, e142_123, e142_124, e142_125, e142_128, e142_132, e142_135, e142_136, e142_138, e142_141, e142_142, e142_143, e142_146, e142_147, e142_148, e142_151, e142_154, e142_157, e142_160, e142_161, e142_164, e142_165, e142_166, e142_169, e142_170, e142_171, e142_174, e142_177, e142_178, e142_179, e142_182, h1, i1, e3, s_isLetter, s_isDigit, if_pos cl', if_neg nd]
    · rw [zif_f cl, Int.add_zero] at en
      have cd : isD (A 3 (p + m)) := hc.resolve_left cl
      have cd' := cd
      have cl' := cl
      unfold isD at cd'
      unfold isL at cl'
      by_cases c3 : (m : Int) - nLf (A 3) p m + 1 ≤ 3
      · obtain ⟨N', l3', E, a1, a2, a3⟩ := c_run0 d x0 A s p e hs s1 p0 he ha hend n (m + 1) (0, A 3 (p + m), 0) (zup (zup N 2 6 (z32 (z32 (z32 (N 2 6 * 10) + A 3 (p + m)) - 48))) 2 3 (p + m + 1)) (by omega) ⟨by rw [zup_e (by omega)]; omega, fun h _ => by omega, fun h h3 => by
          have hl : nLf (A 3) p m = 0 := by omega
          have hv := NLf_bd (f := A 3) (p := p) (m := m) (by omega) (nLf_0 ham hl)
          have h99 := hv.2.1 (by omega)
          rw [zup_j (by omega), zup_e (by omega), i3 hl (by omega), z32_id (x := NLf (A 3) p m * 10) (by omega) (by omega), z32_id (x := NLf (A 3) p m * 10 + A 3 (p + m)) (by omega) (by omega), z32_id (by omega) (by omega)]
          show _ = 10 * NLf (A 3) p m + A 3 (p + m) - 48
          omega, fun x y h => by
          rw [← i4 x y h]
          unfold zup
          rw [if_neg (by omega), if_neg (by omega)]⟩
        refine ⟨N', l3', E, a1, ?_, a3⟩
        rw [← a2, en, hcast, show (m : Int) + 1 - nLf (A 3) p m = m - nLf (A 3) p m + 1 by omega]
        generalize nLf (A 3) p m = l at *
        rw [e142_4]
        simp (disch := first | assumption | exact zrm0 | exact zrm1 _ | exact zrm2 _ _ | exact zrm3 _ _ _ | exact zrm4 _ _ _ _ | omega) only [m142, ↓k_dp, ↓k_dn, k_dp, k_dn, k_dT, k_dF, k_ip, k_in, if_true, if_false, ne_eq, not_true_eq_false, not_false_eq_true, Int.reduceAdd, zup_a, zup_e, zup_j, z32_id, k_ic, k_is1, k_is2, k_al0, k_gI, k_icge, k_gR, k_ild, k_ildS, k_ildW, k_s1r, k_ifne, k_ifeq, k_is3, k_il3, k_inc2, k_il2, k_icgt, k_imul, k_iadd, k_isub, k_goto, k_pI, k_inc1, k_il1, k_gL, k_s2r, k_lc, k_pL, k_dup, k_pE, k_rv, zb0_some, zb1_some, e142_0, e142_1, e142_2, e142_3, e142_5, e142_8, e142_9, e142_12, e142_15, e142_16, e142_19, e142_20, e142_23, e142_24, e142_27, e142_30, e142_31, e142_34, e142_35, e142_38, e142_39, e142_42, e142_45, e142_46, e142_49, e142_50, e142_53, e142_54, e142_55, e142_56, e142_59, e142_62, e142_65, e142_66, e142_67, e142_68, e142_71, e142_72, e142_75, e142_77, e142_78, e142_79, e142_80, e142_82, e142_83, e142_86, e142_87, e142_90, e142_93, e142_96, e142_97, e142_98, e142_100, e142_103, e142_104, e142_107, e142_108, e142_111, e142_114, e142_115, e142_118, e142_119, e142_120, e142_123, e142_124, e142_125, e142_128, e142_132, e142_135, e142_136, e142_138, e142_141, e142_142, e142_143, e142_146, e142_147, e142_148, e142_151, e142_154, e142_157, e142_160, e142_161, e142_164, e142_165, e142_166, e142_169, e142_170, e142_171, e142_174, e142_177, e142_178, e142_179, e142_182, h1, i1, e3, s_isLetter, s_isDigit, if_pos cd', if_neg cl']
      · obtain ⟨N', l3', E, a1, a2, a3⟩ := c_run0 d x0 A s p e hs s1 p0 he ha hend n (m + 1) (0, A 3 (p + m), 0) (zup (zup N 2 6 0) 2 3 (p + m + 1)) (by omega) ⟨by rw [zup_e (by omega)]; omega, fun h _ => by omega, fun h h3 => by omega, fun x y h => by
          rw [← i4 x y h]
          unfold zup
          rw [if_neg (by omega), if_neg (by omega)]⟩
        refine ⟨N', l3', E, a1, ?_, a3⟩
        rw [← a2, en, hcast, show (m : Int) + 1 - nLf (A 3) p m = m - nLf (A 3) p m + 1 by omega]
        generalize nLf (A 3) p m = l at *
        rw [e142_4]
        simp (disch := first | assumption | exact zrm0 | exact zrm1 _ | exact zrm2 _ _ | exact zrm3 _ _ _ | exact zrm4 _ _ _ _ | omega) only [m142, ↓k_dp, ↓k_dn, k_dp, k_dn, k_dT, k_dF, k_ip, k_in, if_true, if_false, ne_eq, not_true_eq_false, not_false_eq_true, Int.reduceAdd, zup_a, zup_e, zup_j, z32_id, k_ic, k_is1, k_is2, k_al0, k_gI, k_icge, k_gR, k_ild, k_ildS, k_ildW, k_s1r, k_ifne, k_ifeq, k_is3, k_il3, k_inc2, k_il2, k_icgt, k_imul, k_iadd, k_isub, k_goto, k_pI, k_inc1, k_il1, k_gL, k_s2r, k_lc, k_pL, k_dup, k_pE, k_rv, zb0_some, zb1_some, e142_0, e142_1, e142_2, e142_3, e142_5, e142_8, e142_9, e142_12, e142_15, e142_16, e142_19, e142_20, e142_23, e142_24, e142_27, e142_30, e142_31, e142_34, e142_35, e142_38, e142_39, e142_42, e142_45, e142_46, e142_49, e142_50, e142_53, e142_54, e142_55, e142_56, e142_59, e142_62, e142_65, e142_66, e142_67, e142_68, e142_71, e142_72, e142_75, e142_77, e142_78, e142_79, e142_80, e142_82, e142_83, e142_86, e142_87, e142_90, e142_93, e142_96, e142_97, e142_98, e142_100, e142_103, e142_104, e142_107, e142_108, e142_111, e142_114, e142_115, e142_118, e142_119, e142_120, e142_123, e142_124, e142_125, e142_128, e142_132, e142_135, e142_136, e142_138, e142_141, e142_142, e142_143, e142_146, e142_147, e142_148, e142_151, e142_154, e142_157, e142_160, e142_161, e142_164, e142_165, e142_166, e142_169, e142_170, e142_171, e142_174, e142_177, e142_178, e142_179, e142_182, h1, i1, e3, s_isLetter, s_isDigit, if_pos cd', if_neg cl']
