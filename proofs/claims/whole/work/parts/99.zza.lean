/-! the lines of a valley's text: price, wage, sand, echo, grants, wants -/
theorem m202 (ph : Bool) (d : Nat) (a x0 : Int) (M : zM) : zEm ph (d + 1) 202 [(30, a, x0)] M = zEv ph d 202 0 [(30, a, x0)] [] M := rfl
theorem e202_0 (ph : Bool) (d : Nat) (L st : List zV) (M : zM) : zEv ph d 202 0 L st M = zcont ph d 202 (zstep ph (zEm ph d) 4 1 0 [0] L st M) := zEv_step rfl
theorem e202_1 (ph : Bool) (d : Nat) (L st : List zV) (M : zM) : zEv ph d 202 1 L st M = zcont ph d 202 (zstep ph (zEm ph d) 0 2 0 [0] L st M) := zEv_step rfl
theorem e202_2 (ph : Bool) (d : Nat) (L st : List zV) (M : zM) : zEv ph d 202 2 L st M = zcont ph d 202 (zstep ph (zEm ph d) 70 5 179 [2, 1, 30] L st M) := zEv_step rfl
theorem e202_5 (ph : Bool) (d : Nat) (L st : List zV) (M : zM) : zEv ph d 202 5 L st M = zcont ph d 202 (zstep ph (zEm ph d) 40 8 13 [] L st M) := zEv_step rfl
theorem e202_8 (ph : Bool) (d : Nat) (L st : List zV) (M : zM) : zEv ph d 202 8 L st M = zcont ph d 202 (zstep ph (zEm ph d) 4 9 0 [0] L st M) := zEv_step rfl
theorem e202_9 (ph : Bool) (d : Nat) (L st : List zV) (M : zM) : zEv ph d 202 9 L st M = zcont ph d 202 (zstep ph (zEm ph d) 70 12 196 [1, 1, 30] L st M) := zEv_step rfl
theorem e202_12 (ph : Bool) (d : Nat) (L st : List zV) (M : zM) : zEv ph d 202 12 L st M = zcont ph d 202 (zstep ph (zEm ph d) 80 13 0 [0, 1] L st M) := zEv_step rfl
theorem e202_13 (ph : Bool) (d : Nat) (L st : List zV) (M : zM) : zEv ph d 202 13 L st M = zcont ph d 202 (zstep ph (zEm ph d) 4 14 0 [0] L st M) := zEv_step rfl
theorem e202_14 (ph : Bool) (d : Nat) (L st : List zV) (M : zM) : zEv ph d 202 14 L st M = zcont ph d 202 (zstep ph (zEm ph d) 0 15 0 [1] L st M) := zEv_step rfl
theorem e202_15 (ph : Bool) (d : Nat) (L st : List zV) (M : zM) : zEv ph d 202 15 L st M = zcont ph d 202 (zstep ph (zEm ph d) 70 18 179 [2, 1, 30] L st M) := zEv_step rfl
theorem e202_18 (ph : Bool) (d : Nat) (L st : List zV) (M : zM) : zEv ph d 202 18 L st M = zcont ph d 202 (zstep ph (zEm ph d) 40 21 26 [] L st M) := zEv_step rfl
theorem e202_21 (ph : Bool) (d : Nat) (L st : List zV) (M : zM) : zEv ph d 202 21 L st M = zcont ph d 202 (zstep ph (zEm ph d) 4 22 0 [0] L st M) := zEv_step rfl
theorem e202_22 (ph : Bool) (d : Nat) (L st : List zV) (M : zM) : zEv ph d 202 22 L st M = zcont ph d 202 (zstep ph (zEm ph d) 70 25 197 [1, 1, 30] L st M) := zEv_step rfl
theorem e202_25 (ph : Bool) (d : Nat) (L st : List zV) (M : zM) : zEv ph d 202 25 L st M = zcont ph d 202 (zstep ph (zEm ph d) 80 26 0 [0, 1] L st M) := zEv_step rfl
theorem e202_26 (ph : Bool) (d : Nat) (L st : List zV) (M : zM) : zEv ph d 202 26 L st M = zcont ph d 202 (zstep ph (zEm ph d) 4 27 0 [0] L st M) := zEv_step rfl
theorem e202_27 (ph : Bool) (d : Nat) (L st : List zV) (M : zM) : zEv ph d 202 27 L st M = zcont ph d 202 (zstep ph (zEm ph d) 0 28 0 [2] L st M) := zEv_step rfl
theorem e202_28 (ph : Bool) (d : Nat) (L st : List zV) (M : zM) : zEv ph d 202 28 L st M = zcont ph d 202 (zstep ph (zEm ph d) 70 31 179 [2, 1, 30] L st M) := zEv_step rfl
theorem e202_31 (ph : Bool) (d : Nat) (L st : List zV) (M : zM) : zEv ph d 202 31 L st M = zcont ph d 202 (zstep ph (zEm ph d) 40 34 39 [] L st M) := zEv_step rfl
theorem e202_34 (ph : Bool) (d : Nat) (L st : List zV) (M : zM) : zEv ph d 202 34 L st M = zcont ph d 202 (zstep ph (zEm ph d) 4 35 0 [0] L st M) := zEv_step rfl
theorem e202_35 (ph : Bool) (d : Nat) (L st : List zV) (M : zM) : zEv ph d 202 35 L st M = zcont ph d 202 (zstep ph (zEm ph d) 70 38 198 [1, 1, 30] L st M) := zEv_step rfl
theorem e202_38 (ph : Bool) (d : Nat) (L st : List zV) (M : zM) : zEv ph d 202 38 L st M = zcont ph d 202 (zstep ph (zEm ph d) 80 39 0 [0, 1] L st M) := zEv_step rfl
theorem e202_39 (ph : Bool) (d : Nat) (L st : List zV) (M : zM) : zEv ph d 202 39 L st M = zcont ph d 202 (zstep ph (zEm ph d) 4 40 0 [0] L st M) := zEv_step rfl
theorem e202_40 (ph : Bool) (d : Nat) (L st : List zV) (M : zM) : zEv ph d 202 40 L st M = zcont ph d 202 (zstep ph (zEm ph d) 0 41 0 [3] L st M) := zEv_step rfl
theorem e202_41 (ph : Bool) (d : Nat) (L st : List zV) (M : zM) : zEv ph d 202 41 L st M = zcont ph d 202 (zstep ph (zEm ph d) 70 44 179 [2, 1, 30] L st M) := zEv_step rfl
theorem e202_44 (ph : Bool) (d : Nat) (L st : List zV) (M : zM) : zEv ph d 202 44 L st M = zcont ph d 202 (zstep ph (zEm ph d) 40 47 52 [] L st M) := zEv_step rfl
theorem e202_47 (ph : Bool) (d : Nat) (L st : List zV) (M : zM) : zEv ph d 202 47 L st M = zcont ph d 202 (zstep ph (zEm ph d) 4 48 0 [0] L st M) := zEv_step rfl
theorem e202_48 (ph : Bool) (d : Nat) (L st : List zV) (M : zM) : zEv ph d 202 48 L st M = zcont ph d 202 (zstep ph (zEm ph d) 70 51 199 [1, 1, 30] L st M) := zEv_step rfl
theorem e202_51 (ph : Bool) (d : Nat) (L st : List zV) (M : zM) : zEv ph d 202 51 L st M = zcont ph d 202 (zstep ph (zEm ph d) 80 52 0 [0, 1] L st M) := zEv_step rfl
theorem e202_52 (ph : Bool) (d : Nat) (L st : List zV) (M : zM) : zEv ph d 202 52 L st M = zcont ph d 202 (zstep ph (zEm ph d) 4 53 0 [0] L st M) := zEv_step rfl
theorem e202_53 (ph : Bool) (d : Nat) (L st : List zV) (M : zM) : zEv ph d 202 53 L st M = zcont ph d 202 (zstep ph (zEm ph d) 0 55 0 [6] L st M) := zEv_step rfl
theorem e202_55 (ph : Bool) (d : Nat) (L st : List zV) (M : zM) : zEv ph d 202 55 L st M = zcont ph d 202 (zstep ph (zEm ph d) 70 58 179 [2, 1, 30] L st M) := zEv_step rfl
theorem e202_58 (ph : Bool) (d : Nat) (L st : List zV) (M : zM) : zEv ph d 202 58 L st M = zcont ph d 202 (zstep ph (zEm ph d) 40 61 66 [] L st M) := zEv_step rfl
theorem e202_61 (ph : Bool) (d : Nat) (L st : List zV) (M : zM) : zEv ph d 202 61 L st M = zcont ph d 202 (zstep ph (zEm ph d) 4 62 0 [0] L st M) := zEv_step rfl
theorem e202_62 (ph : Bool) (d : Nat) (L st : List zV) (M : zM) : zEv ph d 202 62 L st M = zcont ph d 202 (zstep ph (zEm ph d) 70 65 200 [1, 1, 30] L st M) := zEv_step rfl
theorem e202_65 (ph : Bool) (d : Nat) (L st : List zV) (M : zM) : zEv ph d 202 65 L st M = zcont ph d 202 (zstep ph (zEm ph d) 80 66 0 [0, 1] L st M) := zEv_step rfl
theorem e202_66 (ph : Bool) (d : Nat) (L st : List zV) (M : zM) : zEv ph d 202 66 L st M = zcont ph d 202 (zstep ph (zEm ph d) 4 67 0 [0] L st M) := zEv_step rfl
theorem e202_67 (ph : Bool) (d : Nat) (L st : List zV) (M : zM) : zEv ph d 202 67 L st M = zcont ph d 202 (zstep ph (zEm ph d) 0 69 0 [7] L st M) := zEv_step rfl
theorem e202_69 (ph : Bool) (d : Nat) (L st : List zV) (M : zM) : zEv ph d 202 69 L st M = zcont ph d 202 (zstep ph (zEm ph d) 70 72 179 [2, 1, 30] L st M) := zEv_step rfl
theorem e202_72 (ph : Bool) (d : Nat) (L st : List zV) (M : zM) : zEv ph d 202 72 L st M = zcont ph d 202 (zstep ph (zEm ph d) 40 75 84 [] L st M) := zEv_step rfl
theorem e202_75 (ph : Bool) (d : Nat) (L st : List zV) (M : zM) : zEv ph d 202 75 L st M = zcont ph d 202 (zstep ph (zEm ph d) 4 76 0 [0] L st M) := zEv_step rfl
theorem e202_76 (ph : Bool) (d : Nat) (L st : List zV) (M : zM) : zEv ph d 202 76 L st M = zcont ph d 202 (zstep ph (zEm ph d) 0 77 0 [5] L st M) := zEv_step rfl
theorem e202_77 (ph : Bool) (d : Nat) (L st : List zV) (M : zM) : zEv ph d 202 77 L st M = zcont ph d 202 (zstep ph (zEm ph d) 0 78 0 [0] L st M) := zEv_step rfl
theorem e202_78 (ph : Bool) (d : Nat) (L st : List zV) (M : zM) : zEv ph d 202 78 L st M = zcont ph d 202 (zstep ph (zEm ph d) 0 80 0 [20] L st M) := zEv_step rfl
theorem e202_80 (ph : Bool) (d : Nat) (L st : List zV) (M : zM) : zEv ph d 202 80 L st M = zcont ph d 202 (zstep ph (zEm ph d) 70 83 201 [4, 1, 30] L st M) := zEv_step rfl
theorem e202_83 (ph : Bool) (d : Nat) (L st : List zV) (M : zM) : zEv ph d 202 83 L st M = zcont ph d 202 (zstep ph (zEm ph d) 80 84 0 [0, 1] L st M) := zEv_step rfl
theorem e202_84 (ph : Bool) (d : Nat) (L st : List zV) (M : zM) : zEv ph d 202 84 L st M = zcont ph d 202 (zstep ph (zEm ph d) 4 85 0 [0] L st M) := zEv_step rfl
theorem e202_85 (ph : Bool) (d : Nat) (L st : List zV) (M : zM) : zEv ph d 202 85 L st M = zcont ph d 202 (zstep ph (zEm ph d) 0 87 0 [8] L st M) := zEv_step rfl
theorem e202_87 (ph : Bool) (d : Nat) (L st : List zV) (M : zM) : zEv ph d 202 87 L st M = zcont ph d 202 (zstep ph (zEm ph d) 70 90 179 [2, 1, 30] L st M) := zEv_step rfl
theorem e202_90 (ph : Bool) (d : Nat) (L st : List zV) (M : zM) : zEv ph d 202 90 L st M = zcont ph d 202 (zstep ph (zEm ph d) 40 93 103 [] L st M) := zEv_step rfl
theorem e202_93 (ph : Bool) (d : Nat) (L st : List zV) (M : zM) : zEv ph d 202 93 L st M = zcont ph d 202 (zstep ph (zEm ph d) 4 94 0 [0] L st M) := zEv_step rfl
theorem e202_94 (ph : Bool) (d : Nat) (L st : List zV) (M : zM) : zEv ph d 202 94 L st M = zcont ph d 202 (zstep ph (zEm ph d) 0 96 0 [7] L st M) := zEv_step rfl
theorem e202_96 (ph : Bool) (d : Nat) (L st : List zV) (M : zM) : zEv ph d 202 96 L st M = zcont ph d 202 (zstep ph (zEm ph d) 0 97 0 [2] L st M) := zEv_step rfl
theorem e202_97 (ph : Bool) (d : Nat) (L st : List zV) (M : zM) : zEv ph d 202 97 L st M = zcont ph d 202 (zstep ph (zEm ph d) 0 99 0 [99] L st M) := zEv_step rfl
theorem e202_99 (ph : Bool) (d : Nat) (L st : List zV) (M : zM) : zEv ph d 202 99 L st M = zcont ph d 202 (zstep ph (zEm ph d) 70 102 201 [4, 1, 30] L st M) := zEv_step rfl
theorem e202_102 (ph : Bool) (d : Nat) (L st : List zV) (M : zM) : zEv ph d 202 102 L st M = zcont ph d 202 (zstep ph (zEm ph d) 80 103 0 [0, 1] L st M) := zEv_step rfl
theorem e202_103 (ph : Bool) (d : Nat) (L st : List zV) (M : zM) : zEv ph d 202 103 L st M = zcont ph d 202 (zstep ph (zEm ph d) 4 104 0 [0] L st M) := zEv_step rfl
theorem e202_104 (ph : Bool) (d : Nat) (L st : List zV) (M : zM) : zEv ph d 202 104 L st M = zcont ph d 202 (zstep ph (zEm ph d) 0 106 0 [9] L st M) := zEv_step rfl
theorem e202_106 (ph : Bool) (d : Nat) (L st : List zV) (M : zM) : zEv ph d 202 106 L st M = zcont ph d 202 (zstep ph (zEm ph d) 70 109 179 [2, 1, 30] L st M) := zEv_step rfl
theorem e202_109 (ph : Bool) (d : Nat) (L st : List zV) (M : zM) : zEv ph d 202 109 L st M = zcont ph d 202 (zstep ph (zEm ph d) 40 112 141 [] L st M) := zEv_step rfl
theorem e202_112 (ph : Bool) (d : Nat) (L st : List zV) (M : zM) : zEv ph d 202 112 L st M = zcont ph d 202 (zstep ph (zEm ph d) 4 113 0 [0] L st M) := zEv_step rfl
theorem e202_113 (ph : Bool) (d : Nat) (L st : List zV) (M : zM) : zEv ph d 202 113 L st M = zcont ph d 202 (zstep ph (zEm ph d) 0 114 0 [4] L st M) := zEv_step rfl
theorem e202_114 (ph : Bool) (d : Nat) (L st : List zV) (M : zM) : zEv ph d 202 114 L st M = zcont ph d 202 (zstep ph (zEm ph d) 70 117 194 [2, 1, 30] L st M) := zEv_step rfl
theorem e202_117 (ph : Bool) (d : Nat) (L st : List zV) (M : zM) : zEv ph d 202 117 L st M = zcont ph d 202 (zstep ph (zEm ph d) 40 120 139 [] L st M) := zEv_step rfl
theorem e202_120 (ph : Bool) (d : Nat) (L st : List zV) (M : zM) : zEv ph d 202 120 L st M = zcont ph d 202 (zstep ph (zEm ph d) 4 121 0 [0] L st M) := zEv_step rfl
theorem e202_121 (ph : Bool) (d : Nat) (L st : List zV) (M : zM) : zEv ph d 202 121 L st M = zcont ph d 202 (zstep ph (zEm ph d) 0 122 0 [3] L st M) := zEv_step rfl
theorem e202_122 (ph : Bool) (d : Nat) (L st : List zV) (M : zM) : zEv ph d 202 122 L st M = zcont ph d 202 (zstep ph (zEm ph d) 4 123 0 [0] L st M) := zEv_step rfl
theorem e202_123 (ph : Bool) (d : Nat) (L st : List zV) (M : zM) : zEv ph d 202 123 L st M = zcont ph d 202 (zstep ph (zEm ph d) 0 124 0 [1] L st M) := zEv_step rfl
theorem e202_124 (ph : Bool) (d : Nat) (L st : List zV) (M : zM) : zEv ph d 202 124 L st M = zcont ph d 202 (zstep ph (zEm ph d) 0 126 0 [9] L st M) := zEv_step rfl
theorem e202_126 (ph : Bool) (d : Nat) (L st : List zV) (M : zM) : zEv ph d 202 126 L st M = zcont ph d 202 (zstep ph (zEm ph d) 70 129 183 [3, 1, 30] L st M) := zEv_step rfl
theorem e202_129 (ph : Bool) (d : Nat) (L st : List zV) (M : zM) : zEv ph d 202 129 L st M = zcont ph d 202 (zstep ph (zEm ph d) 70 132 193 [3, 1, 30] L st M) := zEv_step rfl
theorem e202_132 (ph : Bool) (d : Nat) (L st : List zV) (M : zM) : zEv ph d 202 132 L st M = zcont ph d 202 (zstep ph (zEm ph d) 40 135 139 [] L st M) := zEv_step rfl
theorem e202_135 (ph : Bool) (d : Nat) (L st : List zV) (M : zM) : zEv ph d 202 135 L st M = zcont ph d 202 (zstep ph (zEm ph d) 0 136 0 [1] L st M) := zEv_step rfl
theorem e202_136 (ph : Bool) (d : Nat) (L st : List zV) (M : zM) : zEv ph d 202 136 L st M = zcont ph d 202 (zstep ph (zEm ph d) 52 139 140 [] L st M) := zEv_step rfl
theorem e202_139 (ph : Bool) (d : Nat) (L st : List zV) (M : zM) : zEv ph d 202 139 L st M = zcont ph d 202 (zstep ph (zEm ph d) 0 140 0 [0] L st M) := zEv_step rfl
theorem e202_140 (ph : Bool) (d : Nat) (L st : List zV) (M : zM) : zEv ph d 202 140 L st M = zcont ph d 202 (zstep ph (zEm ph d) 80 141 0 [0, 1] L st M) := zEv_step rfl
theorem e202_141 (ph : Bool) (d : Nat) (L st : List zV) (M : zM) : zEv ph d 202 141 L st M = zcont ph d 202 (zstep ph (zEm ph d) 4 142 0 [0] L st M) := zEv_step rfl
theorem e202_142 (ph : Bool) (d : Nat) (L st : List zV) (M : zM) : zEv ph d 202 142 L st M = zcont ph d 202 (zstep ph (zEm ph d) 0 144 0 [10] L st M) := zEv_step rfl
theorem e202_144 (ph : Bool) (d : Nat) (L st : List zV) (M : zM) : zEv ph d 202 144 L st M = zcont ph d 202 (zstep ph (zEm ph d) 70 147 179 [2, 1, 30] L st M) := zEv_step rfl
theorem e202_147 (ph : Bool) (d : Nat) (L st : List zV) (M : zM) : zEv ph d 202 147 L st M = zcont ph d 202 (zstep ph (zEm ph d) 40 150 181 [] L st M) := zEv_step rfl
theorem e202_150 (ph : Bool) (d : Nat) (L st : List zV) (M : zM) : zEv ph d 202 150 L st M = zcont ph d 202 (zstep ph (zEm ph d) 4 151 0 [0] L st M) := zEv_step rfl
theorem e202_151 (ph : Bool) (d : Nat) (L st : List zV) (M : zM) : zEv ph d 202 151 L st M = zcont ph d 202 (zstep ph (zEm ph d) 0 152 0 [5] L st M) := zEv_step rfl
theorem e202_152 (ph : Bool) (d : Nat) (L st : List zV) (M : zM) : zEv ph d 202 152 L st M = zcont ph d 202 (zstep ph (zEm ph d) 70 155 194 [2, 1, 30] L st M) := zEv_step rfl
theorem e202_155 (ph : Bool) (d : Nat) (L st : List zV) (M : zM) : zEv ph d 202 155 L st M = zcont ph d 202 (zstep ph (zEm ph d) 40 158 177 [] L st M) := zEv_step rfl
theorem e202_158 (ph : Bool) (d : Nat) (L st : List zV) (M : zM) : zEv ph d 202 158 L st M = zcont ph d 202 (zstep ph (zEm ph d) 4 159 0 [0] L st M) := zEv_step rfl
theorem e202_159 (ph : Bool) (d : Nat) (L st : List zV) (M : zM) : zEv ph d 202 159 L st M = zcont ph d 202 (zstep ph (zEm ph d) 0 160 0 [4] L st M) := zEv_step rfl
theorem e202_160 (ph : Bool) (d : Nat) (L st : List zV) (M : zM) : zEv ph d 202 160 L st M = zcont ph d 202 (zstep ph (zEm ph d) 4 161 0 [0] L st M) := zEv_step rfl
theorem e202_161 (ph : Bool) (d : Nat) (L st : List zV) (M : zM) : zEv ph d 202 161 L st M = zcont ph d 202 (zstep ph (zEm ph d) 0 162 0 [0] L st M) := zEv_step rfl
theorem e202_162 (ph : Bool) (d : Nat) (L st : List zV) (M : zM) : zEv ph d 202 162 L st M = zcont ph d 202 (zstep ph (zEm ph d) 0 164 0 [9] L st M) := zEv_step rfl
theorem e202_164 (ph : Bool) (d : Nat) (L st : List zV) (M : zM) : zEv ph d 202 164 L st M = zcont ph d 202 (zstep ph (zEm ph d) 70 167 183 [3, 1, 30] L st M) := zEv_step rfl
theorem e202_167 (ph : Bool) (d : Nat) (L st : List zV) (M : zM) : zEv ph d 202 167 L st M = zcont ph d 202 (zstep ph (zEm ph d) 70 170 193 [3, 1, 30] L st M) := zEv_step rfl
theorem e202_170 (ph : Bool) (d : Nat) (L st : List zV) (M : zM) : zEv ph d 202 170 L st M = zcont ph d 202 (zstep ph (zEm ph d) 40 173 177 [] L st M) := zEv_step rfl
theorem e202_173 (ph : Bool) (d : Nat) (L st : List zV) (M : zM) : zEv ph d 202 173 L st M = zcont ph d 202 (zstep ph (zEm ph d) 0 174 0 [1] L st M) := zEv_step rfl
theorem e202_174 (ph : Bool) (d : Nat) (L st : List zV) (M : zM) : zEv ph d 202 174 L st M = zcont ph d 202 (zstep ph (zEm ph d) 52 177 186 [] L st M) := zEv_step rfl
theorem e202_177 (ph : Bool) (d : Nat) (L st : List zV) (M : zM) : zEv ph d 202 177 L st M = zcont ph d 202 (zstep ph (zEm ph d) 0 178 0 [0] L st M) := zEv_step rfl
theorem e202_178 (ph : Bool) (d : Nat) (L st : List zV) (M : zM) : zEv ph d 202 178 L st M = zcont ph d 202 (zstep ph (zEm ph d) 52 181 186 [] L st M) := zEv_step rfl
theorem e202_181 (ph : Bool) (d : Nat) (L st : List zV) (M : zM) : zEv ph d 202 181 L st M = zcont ph d 202 (zstep ph (zEm ph d) 4 182 0 [0] L st M) := zEv_step rfl
theorem e202_182 (ph : Bool) (d : Nat) (L st : List zV) (M : zM) : zEv ph d 202 182 L st M = zcont ph d 202 (zstep ph (zEm ph d) 0 183 0 [1] L st M) := zEv_step rfl
theorem e202_183 (ph : Bool) (d : Nat) (L st : List zV) (M : zM) : zEv ph d 202 183 L st M = zcont ph d 202 (zstep ph (zEm ph d) 70 186 182 [2, 1, 30] L st M) := zEv_step rfl
theorem e202_186 (ph : Bool) (d : Nat) (L st : List zV) (M : zM) : zEv ph d 202 186 L st M = zcont ph d 202 (zstep ph (zEm ph d) 80 187 0 [0, 1] L st M) := zEv_step rfl
theorem r_putY (E : Nat) (hE : 1 ≤ E) (y0 i y y2 : Int) (B : zM) (i0 : 0 ≤ i) (i1 : i < 75) : zEm true E 193 [(30, 197, y0), (0, i, y), (0, 1, y2)] B = some ((0, 1, 0), zup B 200 i (B 197 13)) := by
  obtain ⟨e, rfl⟩ : ∃ e, E = e + 1 := ⟨E - 1, by omega⟩
  simp (disch := first | assumption | exact zrm0 | exact zrm1 _ | exact zrm2 _ _ | exact zrm3 _ _ _ | exact zrm4 _ _ _ _ | omega) only [m193, ↓k_dp, ↓k_dn, k_dp, k_dn, k_dT, k_dF, k_ip, k_in, if_true, if_false, ne_eq, not_true_eq_false, not_false_eq_true, Int.reduceAdd, zup_a, zup_e, zup_j, z32_id, k_il2, k_ifeq, k_al0, k_gR, k_il1, k_gI, k_ist, k_rz, e193_0, e193_1, e193_4, e193_5, e193_8, e193_9, e193_10, e193_13, e193_14, e193_15]
theorem r_putN (E : Nat) (hE : 1 ≤ E) (y0 i y y2 : Int) (B : zM) : zEm true E 193 [(30, 197, y0), (0, i, y), (0, 0, y2)] B = some ((0, 0, 0), B) := by
  obtain ⟨e, rfl⟩ : ∃ e, E = e + 1 := ⟨E - 1, by omega⟩
  simp (disch := first | assumption | exact zrm0 | exact zrm1 _ | exact zrm2 _ _ | exact zrm3 _ _ _ | exact zrm4 _ _ _ _ | omega) only [m193, ↓k_dp, ↓k_dn, k_dp, k_dn, k_dT, k_dF, k_ip, k_in, if_true, if_false, ne_eq, not_true_eq_false, not_false_eq_true, Int.reduceAdd, zup_a, zup_e, zup_j, z32_id, k_il2, k_ifeq, k_al0, k_gR, k_il1, k_gI, k_ist, k_rz, e193_0, e193_1, e193_4, e193_5, e193_8, e193_9, e193_10, e193_13, e193_14, e193_15]
theorem p_price {A B : zM} (h : tkR A B) (v : vlP A B) (c : A 2 7 = 13) (D E : Nat) (hD : 9 ≤ D) (hE : 8 ≤ E) (x0 y0 : Int) : ∃ A' B' r, zEm true D 88 [(24, 1, x0)] A = some ((0, r, 0), A') ∧ zEv true E 202 112 [(30, 197, y0)] [] B = some ((0, r, 0), B') ∧ frV A A' ∧ frW B B' ∧ lnC A A' B' r := by
  obtain ⟨d, rfl⟩ : ∃ d, D = d + 1 := ⟨D - 1, by omega⟩
  obtain ⟨e, rfl⟩ : ∃ e, E = e + 1 := ⟨E - 1, by omega⟩
  obtain ⟨h7, h5⟩ := tk_w2 h (k := 9) (by omega) (by omega) c
  have hz : zshl 1 4 = 16 := by decide
  rcases p_once h v (k := 4) (by omega) (by omega) h7 d e (by omega) (by omega) x0 y0 0 0 with ⟨b1, b2⟩ | ⟨A2, B2, b1, b2, b3, b4, b5⟩
  · obtain ⟨C, hC⟩ : ∃ C, C = zup A 1 5 (zor (A 1 5) (zshl 1 4)) := ⟨_, rfl⟩
    obtain ⟨Dm, hDm⟩ : ∃ Dm, Dm = zup B 208 4 1 := ⟨_, rfl⟩
    have v1 : vlP C Dm := by rw [hC, hDm]; exact vl_on v (by omega) (by omega)
    have hT : tkR C Dm := tkR_fr h (fun x y z => by rw [hC, zup_f (by omega)]) (fun x y z => by rw [hDm, zup_f (by omega)])
    obtain ⟨A1, B1, a1, a2, a3, a4, a5, a6⟩ := p_go hT.1 d e (by omega) (by omega) 0 y0
    have hp1 := a6 (A 2 4) (by rw [hC, zup_f (by omega)]; exact (tk_pg h (by omega)).1) (by rw [hC, zup_f (by omega)]; exact (tk_pg h (by omega)).2)
    have fA : frV A A1 := fun x y z1 z2 z3 => by rw [a4 x y (by omega), hC, zup_f z1]
    have fB : frW B B1 := fun x y z1 z2 z3 z4 => by rw [a5 x y (by omega), hDm, zup_f (by omega)]
    have v2 : vlP A1 B1 := vl_ag v1 (agX_a a4) (agY_g a5)
    rw [hDm] at a2
    have b2' := b2 B1 a2
    rw [hC] at a1
    rw [hz] at b1 a1
    obtain ⟨A2, B2, w, n, c1, c2, c3, c4, c5⟩ := p_num a3 d (e + 1) (by omega) (by omega) 1 9 0 y0 0 0 0 0
    have hC1 : zEm true (d + 1) 88 [(24, 1, x0)] A = some ((0, if n = -1 then 0 else 1, 0), zup A2 4 10 n) := by
      by_cases cn : n = -1
      · rw [if_pos cn]
        simp (disch := first | assumption | exact zrm0 | exact zrm1 _ | exact zrm2 _ _ | exact zrm3 _ _ _ | exact zrm4 _ _ _ _ | omega) only [m88, ↓k_dp, ↓k_dn, k_dp, k_dn, k_dT, k_dF, k_ip, k_in, if_true, if_false, ne_eq, not_true_eq_false, not_false_eq_true, Int.reduceAdd, zup_a, zup_e, zup_j, z32_id, k_al0, k_ic, k_v2r, k_ifne, k_rz, k_gR, k_v1, k_v3r, k_pI, k_gI, k_iceq, k_goto, zb0_some, zb1_some, e88_0, e88_1, e88_3, e88_6, e88_9, e88_10, e88_11, e88_12, e88_15, e88_18, e88_19, e88_22, e88_23, e88_26, e88_27, e88_29, e88_32, e88_35, e88_36, e88_39, e88_42, e88_43, e88_46, e88_47, e88_50, e88_51, b1, a1, c1]
      · rw [if_neg cn]
        simp (disch := first | assumption | exact zrm0 | exact zrm1 _ | exact zrm2 _ _ | exact zrm3 _ _ _ | exact zrm4 _ _ _ _ | omega) only [m88, ↓k_dp, ↓k_dn, k_dp, k_dn, k_dT, k_dF, k_ip, k_in, if_true, if_false, ne_eq, not_true_eq_false, not_false_eq_true, Int.reduceAdd, zup_a, zup_e, zup_j, z32_id, k_al0, k_ic, k_v2r, k_ifne, k_rz, k_gR, k_v1, k_v3r, k_pI, k_gI, k_iceq, k_goto, zb0_some, zb1_some, e88_0, e88_1, e88_3, e88_6, e88_9, e88_10, e88_11, e88_12, e88_15, e88_18, e88_19, e88_22, e88_23, e88_26, e88_27, e88_29, e88_32, e88_35, e88_36, e88_39, e88_42, e88_43, e88_46, e88_47, e88_50, e88_51, b1, a1, c1]
    rcases c5 with ⟨rfl, d1, d2, d3, d4, d5⟩ | ⟨rfl, rfl, d1⟩
    · rw [if_neg (by omega)] at hC1
      have hp := r_putY (e + 1) (by omega) y0 3 0 0 B2 (by omega) (by omega)
      refine ⟨_, zup B2 200 3 (B2 197 13), 1, hC1, ?_, ?_, ?_, Or.inl ⟨rfl, ?_, ?_, ?_⟩⟩
      · simp (disch := first | assumption | exact zrm0 | exact zrm1 _ | exact zrm2 _ _ | exact zrm3 _ _ _ | exact zrm4 _ _ _ _ | omega) only [m202, ↓k_dp, ↓k_dn, k_dp, k_dn, k_dT, k_dF, k_ip, k_in, if_true, if_false, ne_eq, not_true_eq_false, not_false_eq_true, Int.reduceAdd, zup_a, zup_e, zup_j, z32_id, k_al0, k_ic, k_v2r, k_ifeq, k_v1r, k_rz, k_v4r, k_v3r, k_goto, zb0_some, zb1_some, e202_0, e202_1, e202_2, e202_5, e202_8, e202_9, e202_12, e202_13, e202_14, e202_15, e202_18, e202_21, e202_22, e202_25, e202_26, e202_27, e202_28, e202_31, e202_34, e202_35, e202_38, e202_39, e202_40, e202_41, e202_44, e202_47, e202_48, e202_51, e202_52, e202_53, e202_55, e202_58, e202_61, e202_62, e202_65, e202_66, e202_67, e202_69, e202_72, e202_75, e202_76, e202_77, e202_78, e202_80, e202_83, e202_84, e202_85, e202_87, e202_90, e202_93, e202_94, e202_96, e202_97, e202_99, e202_102, e202_103, e202_104, e202_106, e202_109, e202_112, e202_113, e202_114, e202_117, e202_120, e202_121, e202_122, e202_123, e202_124, e202_126, e202_129, e202_132, e202_135, e202_136, e202_139, e202_140, e202_141, e202_142, e202_144, e202_147, e202_150, e202_151, e202_152, e202_155, e202_158, e202_159, e202_160, e202_161, e202_162, e202_164, e202_167, e202_170, e202_173, e202_174, e202_177, e202_178, e202_181, e202_182, e202_183, e202_186, b2', c2, hp]
      · exact fun x y z1 z2 z3 => by rw [zup_f (by omega), c3 x y (by omega)]; exact fA x y z1 z2 z3
      · exact fun x y z1 z2 z3 z4 => by rw [zup_f (by omega), c4 x y (by omega)]; exact fB x y z1 z2 z3 z4
      · exact tkR_fr d4 (fun x y z => zup_f (by omega)) (fun x y z => zup_f (by omega))
      · rw [d3]
        exact vl_u (vl_ag v2 c3 c4) (Or.inr (Or.inr (Or.inr (Or.inr (Or.inr (Or.inl ⟨rfl, rfl, rfl, by omega, by omega⟩))))))
      · rw [zup_f (by omega)]
        omega
    · rw [if_pos rfl] at hC1
      have hp := r_putN (e + 1) (by omega) y0 3 0 0 B2
      refine ⟨_, B2, 0, hC1, ?_, ?_, frW_Y fB c4, Or.inr ⟨rfl, ?_⟩⟩
      · simp (disch := first | assumption | exact zrm0 | exact zrm1 _ | exact zrm2 _ _ | exact zrm3 _ _ _ | exact zrm4 _ _ _ _ | omega) only [m202, ↓k_dp, ↓k_dn, k_dp, k_dn, k_dT, k_dF, k_ip, k_in, if_true, if_false, ne_eq, not_true_eq_false, not_false_eq_true, Int.reduceAdd, zup_a, zup_e, zup_j, z32_id, k_al0, k_ic, k_v2r, k_ifeq, k_v1r, k_rz, k_v4r, k_v3r, k_goto, zb0_some, zb1_some, e202_0, e202_1, e202_2, e202_5, e202_8, e202_9, e202_12, e202_13, e202_14, e202_15, e202_18, e202_21, e202_22, e202_25, e202_26, e202_27, e202_28, e202_31, e202_34, e202_35, e202_38, e202_39, e202_40, e202_41, e202_44, e202_47, e202_48, e202_51, e202_52, e202_53, e202_55, e202_58, e202_61, e202_62, e202_65, e202_66, e202_67, e202_69, e202_72, e202_75, e202_76, e202_77, e202_78, e202_80, e202_83, e202_84, e202_85, e202_87, e202_90, e202_93, e202_94, e202_96, e202_97, e202_99, e202_102, e202_103, e202_104, e202_106, e202_109, e202_112, e202_113, e202_114, e202_117, e202_120, e202_121, e202_122, e202_123, e202_124, e202_126, e202_129, e202_132, e202_135, e202_136, e202_139, e202_140, e202_141, e202_142, e202_144, e202_147, e202_150, e202_151, e202_152, e202_155, e202_158, e202_159, e202_160, e202_161, e202_162, e202_164, e202_167, e202_170, e202_173, e202_174, e202_177, e202_178, e202_181, e202_182, e202_183, e202_186, b2', c2, hp]
      · exact fun x y z1 z2 z3 => by rw [zup_f (by omega), c3 x y (by omega)]; exact fA x y z1 z2 z3
      · unfold flR
        rw [zup_f (by omega), zup_f (by omega)]
        exact d1
  · rw [hz] at b1
    refine ⟨A2, B2, 0, ?_, ?_, frV_X frV_r b3, frW_Y frW_r b4, Or.inr ⟨rfl, b5⟩⟩
    · simp (disch := first | assumption | exact zrm0 | exact zrm1 _ | exact zrm2 _ _ | exact zrm3 _ _ _ | exact zrm4 _ _ _ _ | omega) only [m88, ↓k_dp, ↓k_dn, k_dp, k_dn, k_dT, k_dF, k_ip, k_in, if_true, if_false, ne_eq, not_true_eq_false, not_false_eq_true, Int.reduceAdd, zup_a, zup_e, zup_j, z32_id, k_al0, k_ic, k_v2r, k_ifne, k_rz, k_gR, k_v1, k_v3r, k_pI, k_gI, k_iceq, k_goto, zb0_some, zb1_some, e88_0, e88_1, e88_3, e88_6, e88_9, e88_10, e88_11, e88_12, e88_15, e88_18, e88_19, e88_22, e88_23, e88_26, e88_27, e88_29, e88_32, e88_35, e88_36, e88_39, e88_42, e88_43, e88_46, e88_47, e88_50, e88_51, b1]
    · simp (disch := first | assumption | exact zrm0 | exact zrm1 _ | exact zrm2 _ _ | exact zrm3 _ _ _ | exact zrm4 _ _ _ _ | omega) only [m202, ↓k_dp, ↓k_dn, k_dp, k_dn, k_dT, k_dF, k_ip, k_in, if_true, if_false, ne_eq, not_true_eq_false, not_false_eq_true, Int.reduceAdd, zup_a, zup_e, zup_j, z32_id, k_al0, k_ic, k_v2r, k_ifeq, k_v1r, k_rz, k_v4r, k_v3r, k_goto, zb0_some, zb1_some, e202_0, e202_1, e202_2, e202_5, e202_8, e202_9, e202_12, e202_13, e202_14, e202_15, e202_18, e202_21, e202_22, e202_25, e202_26, e202_27, e202_28, e202_31, e202_34, e202_35, e202_38, e202_39, e202_40, e202_41, e202_44, e202_47, e202_48, e202_51, e202_52, e202_53, e202_55, e202_58, e202_61, e202_62, e202_65, e202_66, e202_67, e202_69, e202_72, e202_75, e202_76, e202_77, e202_78, e202_80, e202_83, e202_84, e202_85, e202_87, e202_90, e202_93, e202_94, e202_96, e202_97, e202_99, e202_102, e202_103, e202_104, e202_106, e202_109, e202_112, e202_113, e202_114, e202_117, e202_120, e202_121, e202_122, e202_123, e202_124, e202_126, e202_129, e202_132, e202_135, e202_136, e202_139, e202_140, e202_141, e202_142, e202_144, e202_147, e202_150, e202_151, e202_152, e202_155, e202_158, e202_159, e202_160, e202_161, e202_162, e202_164, e202_167, e202_170, e202_173, e202_174, e202_177, e202_178, e202_181, e202_182, e202_183, e202_186, b2]
theorem p_wage {A B : zM} (h : tkR A B) (v : vlP A B) (c : A 2 7 = 14) (D E : Nat) (hD : 9 ≤ D) (hE : 8 ≤ E) (x0 y0 : Int) : ∃ A' B' r, zEm true D 89 [(24, 1, x0)] A = some ((0, r, 0), A') ∧ zEv true E 202 150 [(30, 197, y0)] [] B = some ((0, r, 0), B') ∧ frV A A' ∧ frW B B' ∧ lnC A A' B' r := by
  obtain ⟨d, rfl⟩ : ∃ d, D = d + 1 := ⟨D - 1, by omega⟩
  obtain ⟨e, rfl⟩ : ∃ e, E = e + 1 := ⟨E - 1, by omega⟩
  obtain ⟨h7, h5⟩ := tk_w2 h (k := 10) (by omega) (by omega) c
  have hz : zshl 1 5 = 32 := by decide
  rcases p_once h v (k := 5) (by omega) (by omega) h7 d e (by omega) (by omega) x0 y0 0 0 with ⟨b1, b2⟩ | ⟨A2, B2, b1, b2, b3, b4, b5⟩
  · obtain ⟨C, hC⟩ : ∃ C, C = zup A 1 5 (zor (A 1 5) (zshl 1 5)) := ⟨_, rfl⟩
    obtain ⟨Dm, hDm⟩ : ∃ Dm, Dm = zup B 208 5 1 := ⟨_, rfl⟩
    have v1 : vlP C Dm := by rw [hC, hDm]; exact vl_on v (by omega) (by omega)
    have hT : tkR C Dm := tkR_fr h (fun x y z => by rw [hC, zup_f (by omega)]) (fun x y z => by rw [hDm, zup_f (by omega)])
    obtain ⟨A1, B1, a1, a2, a3, a4, a5, a6⟩ := p_go hT.1 d e (by omega) (by omega) 0 y0
    have hp1 := a6 (A 2 4) (by rw [hC, zup_f (by omega)]; exact (tk_pg h (by omega)).1) (by rw [hC, zup_f (by omega)]; exact (tk_pg h (by omega)).2)
    have fA : frV A A1 := fun x y z1 z2 z3 => by rw [a4 x y (by omega), hC, zup_f z1]
    have fB : frW B B1 := fun x y z1 z2 z3 z4 => by rw [a5 x y (by omega), hDm, zup_f (by omega)]
    have v2 : vlP A1 B1 := vl_ag v1 (agX_a a4) (agY_g a5)
    rw [hDm] at a2
    have b2' := b2 B1 a2
    rw [hC] at a1
    rw [hz] at b1 a1
    obtain ⟨A2, B2, w, n, c1, c2, c3, c4, c5⟩ := p_num a3 d (e + 1) (by omega) (by omega) 0 9 0 y0 0 0 0 0
    have hC1 : zEm true (d + 1) 89 [(24, 1, x0)] A = some ((0, if n = -1 then 0 else 1, 0), zup A2 4 11 n) := by
      by_cases cn : n = -1
      · rw [if_pos cn]
        simp (disch := first | assumption | exact zrm0 | exact zrm1 _ | exact zrm2 _ _ | exact zrm3 _ _ _ | exact zrm4 _ _ _ _ | omega) only [m89, ↓k_dp, ↓k_dn, k_dp, k_dn, k_dT, k_dF, k_ip, k_in, if_true, if_false, ne_eq, not_true_eq_false, not_false_eq_true, Int.reduceAdd, zup_a, zup_e, zup_j, z32_id, k_al0, k_ic, k_v2r, k_ifne, k_rz, k_gR, k_v1, k_v3r, k_pI, k_gI, k_iceq, k_goto, zb0_some, zb1_some, e89_0, e89_1, e89_3, e89_6, e89_9, e89_10, e89_11, e89_12, e89_15, e89_18, e89_19, e89_22, e89_23, e89_26, e89_27, e89_29, e89_32, e89_35, e89_36, e89_39, e89_42, e89_43, e89_46, e89_47, e89_50, e89_51, b1, a1, c1]
      · rw [if_neg cn]
        simp (disch := first | assumption | exact zrm0 | exact zrm1 _ | exact zrm2 _ _ | exact zrm3 _ _ _ | exact zrm4 _ _ _ _ | omega) only [m89, ↓k_dp, ↓k_dn, k_dp, k_dn, k_dT, k_dF, k_ip, k_in, if_true, if_false, ne_eq, not_true_eq_false, not_false_eq_true, Int.reduceAdd, zup_a, zup_e, zup_j, z32_id, k_al0, k_ic, k_v2r, k_ifne, k_rz, k_gR, k_v1, k_v3r, k_pI, k_gI, k_iceq, k_goto, zb0_some, zb1_some, e89_0, e89_1, e89_3, e89_6, e89_9, e89_10, e89_11, e89_12, e89_15, e89_18, e89_19, e89_22, e89_23, e89_26, e89_27, e89_29, e89_32, e89_35, e89_36, e89_39, e89_42, e89_43, e89_46, e89_47, e89_50, e89_51, b1, a1, c1]
    rcases c5 with ⟨rfl, d1, d2, d3, d4, d5⟩ | ⟨rfl, rfl, d1⟩
    · rw [if_neg (by omega)] at hC1
      have hp := r_putY (e + 1) (by omega) y0 4 0 0 B2 (by omega) (by omega)
      refine ⟨_, zup B2 200 4 (B2 197 13), 1, hC1, ?_, ?_, ?_, Or.inl ⟨rfl, ?_, ?_, ?_⟩⟩
      · simp (disch := first | assumption | exact zrm0 | exact zrm1 _ | exact zrm2 _ _ | exact zrm3 _ _ _ | exact zrm4 _ _ _ _ | omega) only [m202, ↓k_dp, ↓k_dn, k_dp, k_dn, k_dT, k_dF, k_ip, k_in, if_true, if_false, ne_eq, not_true_eq_false, not_false_eq_true, Int.reduceAdd, zup_a, zup_e, zup_j, z32_id, k_al0, k_ic, k_v2r, k_ifeq, k_v1r, k_rz, k_v4r, k_v3r, k_goto, zb0_some, zb1_some, e202_0, e202_1, e202_2, e202_5, e202_8, e202_9, e202_12, e202_13, e202_14, e202_15, e202_18, e202_21, e202_22, e202_25, e202_26, e202_27, e202_28, e202_31, e202_34, e202_35, e202_38, e202_39, e202_40, e202_41, e202_44, e202_47, e202_48, e202_51, e202_52, e202_53, e202_55, e202_58, e202_61, e202_62, e202_65, e202_66, e202_67, e202_69, e202_72, e202_75, e202_76, e202_77, e202_78, e202_80, e202_83, e202_84, e202_85, e202_87, e202_90, e202_93, e202_94, e202_96, e202_97, e202_99, e202_102, e202_103, e202_104, e202_106, e202_109, e202_112, e202_113, e202_114, e202_117, e202_120, e202_121, e202_122, e202_123, e202_124, e202_126, e202_129, e202_132, e202_135, e202_136, e202_139, e202_140, e202_141, e202_142, e202_144, e202_147, e202_150, e202_151, e202_152, e202_155, e202_158, e202_159, e202_160, e202_161, e202_162, e202_164, e202_167, e202_170, e202_173, e202_174, e202_177, e202_178, e202_181, e202_182, e202_183, e202_186, b2', c2, hp]
      · exact fun x y z1 z2 z3 => by rw [zup_f (by omega), c3 x y (by omega)]; exact fA x y z1 z2 z3
      · exact fun x y z1 z2 z3 z4 => by rw [zup_f (by omega), c4 x y (by omega)]; exact fB x y z1 z2 z3 z4
      · exact tkR_fr d4 (fun x y z => zup_f (by omega)) (fun x y z => zup_f (by omega))
      · rw [d3]
        exact vl_u (vl_ag v2 c3 c4) (Or.inr (Or.inr (Or.inr (Or.inr (Or.inr (Or.inr (Or.inl ⟨rfl, rfl, rfl, by omega, by omega⟩)))))))
      · rw [zup_f (by omega)]
        omega
    · rw [if_pos rfl] at hC1
      have hp := r_putN (e + 1) (by omega) y0 4 0 0 B2
      refine ⟨_, B2, 0, hC1, ?_, ?_, frW_Y fB c4, Or.inr ⟨rfl, ?_⟩⟩
      · simp (disch := first | assumption | exact zrm0 | exact zrm1 _ | exact zrm2 _ _ | exact zrm3 _ _ _ | exact zrm4 _ _ _ _ | omega) only [m202, ↓k_dp, ↓k_dn, k_dp, k_dn, k_dT, k_dF, k_ip, k_in, if_true, if_false, ne_eq, not_true_eq_false, not_false_eq_true, Int.reduceAdd, zup_a, zup_e, zup_j, z32_id, k_al0, k_ic, k_v2r, k_ifeq, k_v1r, k_rz, k_v4r, k_v3r, k_goto, zb0_some, zb1_some, e202_0, e202_1, e202_2, e202_5, e202_8, e202_9, e202_12, e202_13, e202_14, e202_15, e202_18, e202_21, e202_22, e202_25, e202_26, e202_27, e202_28, e202_31, e202_34, e202_35, e202_38, e202_39, e202_40, e202_41, e202_44, e202_47, e202_48, e202_51, e202_52, e202_53, e202_55, e202_58, e202_61, e202_62, e202_65, e202_66, e202_67, e202_69, e202_72, e202_75, e202_76, e202_77, e202_78, e202_80, e202_83, e202_84, e202_85, e202_87, e202_90, e202_93, e202_94, e202_96, e202_97, e202_99, e202_102, e202_103, e202_104, e202_106, e202_109, e202_112, e202_113, e202_114, e202_117, e202_120, e202_121, e202_122, e202_123, e202_124, e202_126, e202_129, e202_132, e202_135, e202_136, e202_139, e202_140, e202_141, e202_142, e202_144, e202_147, e202_150, e202_151, e202_152, e202_155, e202_158, e202_159, e202_160, e202_161, e202_162, e202_164, e202_167, e202_170, e202_173, e202_174, e202_177, e202_178, e202_181, e202_182, e202_183, e202_186, b2', c2, hp]
      · exact fun x y z1 z2 z3 => by rw [zup_f (by omega), c3 x y (by omega)]; exact fA x y z1 z2 z3
      · unfold flR
        rw [zup_f (by omega), zup_f (by omega)]
        exact d1
  · rw [hz] at b1
    refine ⟨A2, B2, 0, ?_, ?_, frV_X frV_r b3, frW_Y frW_r b4, Or.inr ⟨rfl, b5⟩⟩
    · simp (disch := first | assumption | exact zrm0 | exact zrm1 _ | exact zrm2 _ _ | exact zrm3 _ _ _ | exact zrm4 _ _ _ _ | omega) only [m89, ↓k_dp, ↓k_dn, k_dp, k_dn, k_dT, k_dF, k_ip, k_in, if_true, if_false, ne_eq, not_true_eq_false, not_false_eq_true, Int.reduceAdd, zup_a, zup_e, zup_j, z32_id, k_al0, k_ic, k_v2r, k_ifne, k_rz, k_gR, k_v1, k_v3r, k_pI, k_gI, k_iceq, k_goto, zb0_some, zb1_some, e89_0, e89_1, e89_3, e89_6, e89_9, e89_10, e89_11, e89_12, e89_15, e89_18, e89_19, e89_22, e89_23, e89_26, e89_27, e89_29, e89_32, e89_35, e89_36, e89_39, e89_42, e89_43, e89_46, e89_47, e89_50, e89_51, b1]
    · simp (disch := first | assumption | exact zrm0 | exact zrm1 _ | exact zrm2 _ _ | exact zrm3 _ _ _ | exact zrm4 _ _ _ _ | omega) only [m202, ↓k_dp, ↓k_dn, k_dp, k_dn, k_dT, k_dF, k_ip, k_in, if_true, if_false, ne_eq, not_true_eq_false, not_false_eq_true, Int.reduceAdd, zup_a, zup_e, zup_j, z32_id, k_al0, k_ic, k_v2r, k_ifeq, k_v1r, k_rz, k_v4r, k_v3r, k_goto, zb0_some, zb1_some, e202_0, e202_1, e202_2, e202_5, e202_8, e202_9, e202_12, e202_13, e202_14, e202_15, e202_18, e202_21, e202_22, e202_25, e202_26, e202_27, e202_28, e202_31, e202_34, e202_35, e202_38, e202_39, e202_40, e202_41, e202_44, e202_47, e202_48, e202_51, e202_52, e202_53, e202_55, e202_58, e202_61, e202_62, e202_65, e202_66, e202_67, e202_69, e202_72, e202_75, e202_76, e202_77, e202_78, e202_80, e202_83, e202_84, e202_85, e202_87, e202_90, e202_93, e202_94, e202_96, e202_97, e202_99, e202_102, e202_103, e202_104, e202_106, e202_109, e202_112, e202_113, e202_114, e202_117, e202_120, e202_121, e202_122, e202_123, e202_124, e202_126, e202_129, e202_132, e202_135, e202_136, e202_139, e202_140, e202_141, e202_142, e202_144, e202_147, e202_150, e202_151, e202_152, e202_155, e202_158, e202_159, e202_160, e202_161, e202_162, e202_164, e202_167, e202_170, e202_173, e202_174, e202_177, e202_178, e202_181, e202_182, e202_183, e202_186, b2]
theorem p_sand {A B : zM} (h : tkR A B) (v : vlP A B) (c5 : A 2 5 = 2) (D E : Nat) (hD : 9 ≤ D) (hE : 8 ≤ E) (x0 y0 y1 y2 y3 y4 y5 : Int) : ∃ A' B' r, zEm true D 87 [(24, 1, x0), (10, 19, 2), (0, 1, y1), (0, 20, y2)] A = some ((0, r, 0), A') ∧ zEm true E 201 [(30, 197, y0), (0, 5, y3), (0, 0, y4), (0, 20, y5)] B = some ((0, r, 0), B') ∧ frV A A' ∧ frW B B' ∧ lnC A A' B' r := by
  obtain ⟨d, rfl⟩ : ∃ d, D = d + 1 := ⟨D - 1, by omega⟩
  obtain ⟨e, rfl⟩ : ∃ e, E = e + 2 := ⟨E - 2, by omega⟩
  obtain ⟨A1, B1, a1, a2, a3, a4, a5, a6⟩ := p_go h.1 d (e + 1) (by omega) (by omega) 0 y0
  have hp1 := a6 _ (tk_pg h (by omega)).1 (tk_pg h (by omega)).2
  have v1 : vlP A1 B1 := vl_ag v (agX_a a4) (agY_g a5)
  obtain ⟨A2, B2, r, w, b1, b2, b3, b4, b5⟩ := p_way a3 d (e + 1) (by omega) (by omega) 0 y0
  rcases b5 with ⟨rfl, hw, e1, e2, h2⟩ | ⟨rfl, rfl, b5⟩
  · rw [e1] at b1
    have hT2 : tkR A1 B2 := tkR_fr a3 (fun _ _ _ => rfl) (fun x y z => by rw [e2, zup_f (by omega)])
    have v2 : vlP A1 B2 := vl_ag v1 agX_r b4
    have h13 : B2 197 13 = w := by rw [e2, zup_e (by omega)]
    have h27 : B2 197 7 = 2 := by rw [e2, zup_f (by omega)]; exact a3.2.wo h2
    have hmk : zshl 1 w = zshl 1 (0 + w) := by
      rcases (show w = 0 ∨ w = 1 by omega) with rfl | rfl <;> decide
    rcases p_once hT2 v2 (k := 0 + w) (by omega) (by omega) h27 d e (by omega) (by omega) x0 y0 0 0 with ⟨g1, g2⟩ | ⟨A3, B3, g1, g2, g3, g4, g5⟩
    · obtain ⟨C, hC⟩ : ∃ C, C = zup A1 1 5 (zor (A1 1 5) (zshl 1 (0 + w))) := ⟨_, rfl⟩
      obtain ⟨Dm, hDm⟩ : ∃ Dm, Dm = zup B2 208 (0 + w) 1 := ⟨_, rfl⟩
      have v3 : vlP C Dm := by rw [hC, hDm]; exact vl_on v2 (by omega) (by omega)
      have hT : tkR C Dm := tkR_fr hT2 (fun x y z => by rw [hC, zup_f (by omega)]) (fun x y z => by rw [hDm, zup_f (by omega)])
      obtain ⟨A3, B3, k1, k2, k3, k4, k5, k6⟩ := p_go hT.1 d e (by omega) (by omega) 0 y0
      have hp2 := k6 (A1 2 4) (by rw [hC, zup_f (by omega)]; exact (tk_pg a3 (by omega)).1) (by rw [hC, zup_f (by omega)]; exact (tk_pg a3 (by omega)).2)
      have fA : frV A A3 := fun x y z1 z2 z3 => by rw [k4 x y (by omega), hC, zup_f z1]; exact a4 x y (by omega)
      have fB : frW B B3 := fun x y z1 z2 z3 z4 => by rw [k5 x y (by omega), hDm, zup_f (by omega), b4 x y z1]; exact a5 x y (by omega)
      have v4 : vlP A3 B3 := vl_ag v3 (agX_a k4) (agY_g k5)
      rw [hDm] at k2
      have g2' := g2 B3 k2
      rw [hC] at k1
      obtain ⟨A4, B4, r, n, c1, c2, c3, c4, c5⟩ := p_num k3 d (e + 1) (by omega) (by omega) 0 20 0 y0 0 0 0 0
      rcases c5 with ⟨rfl, d1, d2, d3, d4, d5⟩ | ⟨rfl, rfl, d1⟩
      · have hp := r_putY (e + 1) (by omega) y0 (5 + w) 0 0 B4 (by omega) (by omega)
        refine ⟨zup A4 19 w n, zup B4 200 (5 + w) (B4 197 13), 1, ?_, ?_, ?_, ?_, Or.inl ⟨rfl, ?_, ?_, ?_⟩⟩
        · simp (disch := first | assumption | exact zrm0 | exact zrm1 _ | exact zrm2 _ _ | exact zrm3 _ _ _ | exact zrm4 _ _ _ _ | omega) only [m87, ↓k_dp, ↓k_dn, k_dp, k_dn, k_dT, k_dF, k_ip, k_in, if_true, if_false, ne_eq, not_true_eq_false, not_false_eq_true, Int.reduceAdd, zup_a, zup_e, zup_j, z32_id, k_al0, k_gR, k_v1, k_v1r, k_is4, k_il4, k_ic, k_iceq, k_al1, k_len, k_icge, k_il2, k_ishl, k_v2r, k_ifne, k_rz, k_il3, k_v3r, k_is5, k_il5, k_icne, k_ist, zb0_some, zb1_some, e87_0, e87_1, e87_4, e87_7, e87_8, e87_11, e87_14, e87_16, e87_18, e87_19, e87_22, e87_24, e87_25, e87_26, e87_29, e87_30, e87_31, e87_33, e87_34, e87_37, e87_40, e87_41, e87_42, e87_43, e87_46, e87_49, e87_50, e87_53, e87_54, e87_55, e87_58, e87_60, e87_62, e87_63, e87_66, e87_67, e87_68, e87_69, e87_71, e87_73, e87_74, e87_75, a1, b1, hmk, g1, k1, c1]
        · simp (disch := first | assumption | exact zrm0 | exact zrm1 _ | exact zrm2 _ _ | exact zrm3 _ _ _ | exact zrm4 _ _ _ _ | omega) only [m201, ↓k_dp, ↓k_dn, k_dp, k_dn, k_dT, k_dF, k_ip, k_in, if_true, if_false, ne_eq, not_true_eq_false, not_false_eq_true, Int.reduceAdd, zup_a, zup_e, zup_j, z32_id, k_al0, k_v1, k_v1r, k_ifne, k_ic, k_rz, k_gI, k_is4, k_il2, k_il4, k_iadd, k_v2r, k_ifeq, k_il1, k_il3, k_v3r, k_goto, zb0_some, zb1_some, e201_0, e201_1, e201_4, e201_5, e201_8, e201_11, e201_12, e201_13, e201_14, e201_17, e201_19, e201_20, e201_21, e201_23, e201_24, e201_27, e201_30, e201_31, e201_32, e201_34, e201_35, e201_36, e201_37, e201_38, e201_41, e201_44, e201_47, e201_48, e201_51, e201_52, a2, b2, h13, g2', c2, hp]
        · exact fun x y z1 z2 z3 => by rw [zup_f (by omega), c3 x y (by omega)]; exact fA x y z1 z2 z3
        · exact fun x y z1 z2 z3 z4 => by rw [zup_f (by omega), c4 x y (by omega)]; exact fB x y z1 z2 z3 z4
        · exact tkR_fr d4 (fun x y z => zup_f (by omega)) (fun x y z => zup_f (by omega))
        · rw [d3]
          exact vl_u (vl_ag v4 c3 c4) (Or.inr (Or.inr (Or.inr (Or.inr (Or.inl ⟨rfl, rfl, by omega, by omega, by omega, by omega⟩)))))
        · rw [zup_f (by omega)]
          omega
      · have hp := r_putN (e + 1) (by omega) y0 (5 + w) 0 0 B4
        refine ⟨A4, B4, 0, ?_, ?_, frV_X fA c3, frW_Y fB c4, Or.inr ⟨rfl, d1⟩⟩
        · simp (disch := first | assumption | exact zrm0 | exact zrm1 _ | exact zrm2 _ _ | exact zrm3 _ _ _ | exact zrm4 _ _ _ _ | omega) only [m87, ↓k_dp, ↓k_dn, k_dp, k_dn, k_dT, k_dF, k_ip, k_in, if_true, if_false, ne_eq, not_true_eq_false, not_false_eq_true, Int.reduceAdd, zup_a, zup_e, zup_j, z32_id, k_al0, k_gR, k_v1, k_v1r, k_is4, k_il4, k_ic, k_iceq, k_al1, k_len, k_icge, k_il2, k_ishl, k_v2r, k_ifne, k_rz, k_il3, k_v3r, k_is5, k_il5, k_icne, k_ist, zb0_some, zb1_some, e87_0, e87_1, e87_4, e87_7, e87_8, e87_11, e87_14, e87_16, e87_18, e87_19, e87_22, e87_24, e87_25, e87_26, e87_29, e87_30, e87_31, e87_33, e87_34, e87_37, e87_40, e87_41, e87_42, e87_43, e87_46, e87_49, e87_50, e87_53, e87_54, e87_55, e87_58, e87_60, e87_62, e87_63, e87_66, e87_67, e87_68, e87_69, e87_71, e87_73, e87_74, e87_75, a1, b1, hmk, g1, k1, c1]
        · simp (disch := first | assumption | exact zrm0 | exact zrm1 _ | exact zrm2 _ _ | exact zrm3 _ _ _ | exact zrm4 _ _ _ _ | omega) only [m201, ↓k_dp, ↓k_dn, k_dp, k_dn, k_dT, k_dF, k_ip, k_in, if_true, if_false, ne_eq, not_true_eq_false, not_false_eq_true, Int.reduceAdd, zup_a, zup_e, zup_j, z32_id, k_al0, k_v1, k_v1r, k_ifne, k_ic, k_rz, k_gI, k_is4, k_il2, k_il4, k_iadd, k_v2r, k_ifeq, k_il1, k_il3, k_v3r, k_goto, zb0_some, zb1_some, e201_0, e201_1, e201_4, e201_5, e201_8, e201_11, e201_12, e201_13, e201_14, e201_17, e201_19, e201_20, e201_21, e201_23, e201_24, e201_27, e201_30, e201_31, e201_32, e201_34, e201_35, e201_36, e201_37, e201_38, e201_41, e201_44, e201_47, e201_48, e201_51, e201_52, a2, b2, h13, g2', c2, hp]
    · refine ⟨A3, B3, 0, ?_, ?_, fun x y z1 z2 z3 => ?_, fun x y z1 z2 z3 z4 => ?_, Or.inr ⟨rfl, g5⟩⟩
      · simp (disch := first | assumption | exact zrm0 | exact zrm1 _ | exact zrm2 _ _ | exact zrm3 _ _ _ | exact zrm4 _ _ _ _ | omega) only [m87, ↓k_dp, ↓k_dn, k_dp, k_dn, k_dT, k_dF, k_ip, k_in, if_true, if_false, ne_eq, not_true_eq_false, not_false_eq_true, Int.reduceAdd, zup_a, zup_e, zup_j, z32_id, k_al0, k_gR, k_v1, k_v1r, k_is4, k_il4, k_ic, k_iceq, k_al1, k_len, k_icge, k_il2, k_ishl, k_v2r, k_ifne, k_rz, k_il3, k_v3r, k_is5, k_il5, k_icne, k_ist, zb0_some, zb1_some, e87_0, e87_1, e87_4, e87_7, e87_8, e87_11, e87_14, e87_16, e87_18, e87_19, e87_22, e87_24, e87_25, e87_26, e87_29, e87_30, e87_31, e87_33, e87_34, e87_37, e87_40, e87_41, e87_42, e87_43, e87_46, e87_49, e87_50, e87_53, e87_54, e87_55, e87_58, e87_60, e87_62, e87_63, e87_66, e87_67, e87_68, e87_69, e87_71, e87_73, e87_74, e87_75, a1, b1, hmk, g1]
      · simp (disch := first | assumption | exact zrm0 | exact zrm1 _ | exact zrm2 _ _ | exact zrm3 _ _ _ | exact zrm4 _ _ _ _ | omega) only [m201, ↓k_dp, ↓k_dn, k_dp, k_dn, k_dT, k_dF, k_ip, k_in, if_true, if_false, ne_eq, not_true_eq_false, not_false_eq_true, Int.reduceAdd, zup_a, zup_e, zup_j, z32_id, k_al0, k_v1, k_v1r, k_ifne, k_ic, k_rz, k_gI, k_is4, k_il2, k_il4, k_iadd, k_v2r, k_ifeq, k_il1, k_il3, k_v3r, k_goto, zb0_some, zb1_some, e201_0, e201_1, e201_4, e201_5, e201_8, e201_11, e201_12, e201_13, e201_14, e201_17, e201_19, e201_20, e201_21, e201_23, e201_24, e201_27, e201_30, e201_31, e201_32, e201_34, e201_35, e201_36, e201_37, e201_38, e201_41, e201_44, e201_47, e201_48, e201_51, e201_52, a2, b2, h13, g2]
      · rw [g3 x y (by omega)]; exact a4 x y (by omega)
      · rw [g4 x y z1, b4 x y z1]; exact a5 x y (by omega)
  · refine ⟨A2, B2, 0, ?_, ?_, fun x y z1 z2 z3 => ?_, fun x y z1 z2 z3 z4 => ?_, Or.inr ⟨rfl, b5⟩⟩
    · simp (disch := first | assumption | exact zrm0 | exact zrm1 _ | exact zrm2 _ _ | exact zrm3 _ _ _ | exact zrm4 _ _ _ _ | omega) only [m87, ↓k_dp, ↓k_dn, k_dp, k_dn, k_dT, k_dF, k_ip, k_in, if_true, if_false, ne_eq, not_true_eq_false, not_false_eq_true, Int.reduceAdd, zup_a, zup_e, zup_j, z32_id, k_al0, k_gR, k_v1, k_v1r, k_is4, k_il4, k_ic, k_iceq, k_al1, k_len, k_icge, k_il2, k_ishl, k_v2r, k_ifne, k_rz, k_il3, k_v3r, k_is5, k_il5, k_icne, k_ist, zb0_some, zb1_some, e87_0, e87_1, e87_4, e87_7, e87_8, e87_11, e87_14, e87_16, e87_18, e87_19, e87_22, e87_24, e87_25, e87_26, e87_29, e87_30, e87_31, e87_33, e87_34, e87_37, e87_40, e87_41, e87_42, e87_43, e87_46, e87_49, e87_50, e87_53, e87_54, e87_55, e87_58, e87_60, e87_62, e87_63, e87_66, e87_67, e87_68, e87_69, e87_71, e87_73, e87_74, e87_75, a1, b1]
    · simp (disch := first | assumption | exact zrm0 | exact zrm1 _ | exact zrm2 _ _ | exact zrm3 _ _ _ | exact zrm4 _ _ _ _ | omega) only [m201, ↓k_dp, ↓k_dn, k_dp, k_dn, k_dT, k_dF, k_ip, k_in, if_true, if_false, ne_eq, not_true_eq_false, not_false_eq_true, Int.reduceAdd, zup_a, zup_e, zup_j, z32_id, k_al0, k_v1, k_v1r, k_ifne, k_ic, k_rz, k_gI, k_is4, k_il2, k_il4, k_iadd, k_v2r, k_ifeq, k_il1, k_il3, k_v3r, k_goto, zb0_some, zb1_some, e201_0, e201_1, e201_4, e201_5, e201_8, e201_11, e201_12, e201_13, e201_14, e201_17, e201_19, e201_20, e201_21, e201_23, e201_24, e201_27, e201_30, e201_31, e201_32, e201_34, e201_35, e201_36, e201_37, e201_38, e201_41, e201_44, e201_47, e201_48, e201_51, e201_52, a2, b2]
    · rw [b3 x y (by omega)]; exact a4 x y (by omega)
    · rw [b4 x y z1]; exact a5 x y (by omega)
theorem p_echo {A B : zM} (h : tkR A B) (v : vlP A B) (c5 : A 2 5 = 2) (D E : Nat) (hD : 9 ≤ D) (hE : 8 ≤ E) (x0 y0 y1 y2 y3 y4 y5 : Int) : ∃ A' B' r, zEm true D 87 [(24, 1, x0), (10, 10, 2), (0, 4, y1), (0, 99, y2)] A = some ((0, r, 0), A') ∧ zEm true E 201 [(30, 197, y0), (0, 7, y3), (0, 2, y4), (0, 99, y5)] B = some ((0, r, 0), B') ∧ frV A A' ∧ frW B B' ∧ lnC A A' B' r := by
  obtain ⟨d, rfl⟩ : ∃ d, D = d + 1 := ⟨D - 1, by omega⟩
  obtain ⟨e, rfl⟩ : ∃ e, E = e + 2 := ⟨E - 2, by omega⟩
  obtain ⟨A1, B1, a1, a2, a3, a4, a5, a6⟩ := p_go h.1 d (e + 1) (by omega) (by omega) 0 y0
  have hp1 := a6 _ (tk_pg h (by omega)).1 (tk_pg h (by omega)).2
  have v1 : vlP A1 B1 := vl_ag v (agX_a a4) (agY_g a5)
  obtain ⟨A2, B2, r, w, b1, b2, b3, b4, b5⟩ := p_way a3 d (e + 1) (by omega) (by omega) 0 y0
  rcases b5 with ⟨rfl, hw, e1, e2, h2⟩ | ⟨rfl, rfl, b5⟩
  · rw [e1] at b1
    have hT2 : tkR A1 B2 := tkR_fr a3 (fun _ _ _ => rfl) (fun x y z => by rw [e2, zup_f (by omega)])
    have v2 : vlP A1 B2 := vl_ag v1 agX_r b4
    have h13 : B2 197 13 = w := by rw [e2, zup_e (by omega)]
    have h27 : B2 197 7 = 2 := by rw [e2, zup_f (by omega)]; exact a3.2.wo h2
    have hmk : zshl 4 w = zshl 1 (2 + w) := by
      rcases (show w = 0 ∨ w = 1 by omega) with rfl | rfl <;> decide
    rcases p_once hT2 v2 (k := 2 + w) (by omega) (by omega) h27 d e (by omega) (by omega) x0 y0 0 0 with ⟨g1, g2⟩ | ⟨A3, B3, g1, g2, g3, g4, g5⟩
    · obtain ⟨C, hC⟩ : ∃ C, C = zup A1 1 5 (zor (A1 1 5) (zshl 1 (2 + w))) := ⟨_, rfl⟩
      obtain ⟨Dm, hDm⟩ : ∃ Dm, Dm = zup B2 208 (2 + w) 1 := ⟨_, rfl⟩
      have v3 : vlP C Dm := by rw [hC, hDm]; exact vl_on v2 (by omega) (by omega)
      have hT : tkR C Dm := tkR_fr hT2 (fun x y z => by rw [hC, zup_f (by omega)]) (fun x y z => by rw [hDm, zup_f (by omega)])
      obtain ⟨A3, B3, k1, k2, k3, k4, k5, k6⟩ := p_go hT.1 d e (by omega) (by omega) 0 y0
      have hp2 := k6 (A1 2 4) (by rw [hC, zup_f (by omega)]; exact (tk_pg a3 (by omega)).1) (by rw [hC, zup_f (by omega)]; exact (tk_pg a3 (by omega)).2)
      have fA : frV A A3 := fun x y z1 z2 z3 => by rw [k4 x y (by omega), hC, zup_f z1]; exact a4 x y (by omega)
      have fB : frW B B3 := fun x y z1 z2 z3 z4 => by rw [k5 x y (by omega), hDm, zup_f (by omega), b4 x y z1]; exact a5 x y (by omega)
      have v4 : vlP A3 B3 := vl_ag v3 (agX_a k4) (agY_g k5)
      rw [hDm] at k2
      have g2' := g2 B3 k2
      rw [hC] at k1
      obtain ⟨A4, B4, r, n, c1, c2, c3, c4, c5⟩ := p_num k3 d (e + 1) (by omega) (by omega) 0 99 0 y0 0 0 0 0
      rcases c5 with ⟨rfl, d1, d2, d3, d4, d5⟩ | ⟨rfl, rfl, d1⟩
      · have hp := r_putY (e + 1) (by omega) y0 (7 + w) 0 0 B4 (by omega) (by omega)
        refine ⟨zup A4 10 w n, zup B4 200 (7 + w) (B4 197 13), 1, ?_, ?_, ?_, ?_, Or.inl ⟨rfl, ?_, ?_, ?_⟩⟩
        · simp (disch := first | assumption | exact zrm0 | exact zrm1 _ | exact zrm2 _ _ | exact zrm3 _ _ _ | exact zrm4 _ _ _ _ | omega) only [m87, ↓k_dp, ↓k_dn, k_dp, k_dn, k_dT, k_dF, k_ip, k_in, if_true, if_false, ne_eq, not_true_eq_false, not_false_eq_true, Int.reduceAdd, zup_a, zup_e, zup_j, z32_id, k_al0, k_gR, k_v1, k_v1r, k_is4, k_il4, k_ic, k_iceq, k_al1, k_len, k_icge, k_il2, k_ishl, k_v2r, k_ifne, k_rz, k_il3, k_v3r, k_is5, k_il5, k_icne, k_ist, zb0_some, zb1_some, e87_0, e87_1, e87_4, e87_7, e87_8, e87_11, e87_14, e87_16, e87_18, e87_19, e87_22, e87_24, e87_25, e87_26, e87_29, e87_30, e87_31, e87_33, e87_34, e87_37, e87_40, e87_41, e87_42, e87_43, e87_46, e87_49, e87_50, e87_53, e87_54, e87_55, e87_58, e87_60, e87_62, e87_63, e87_66, e87_67, e87_68, e87_69, e87_71, e87_73, e87_74, e87_75, a1, b1, hmk, g1, k1, c1]
        · simp (disch := first | assumption | exact zrm0 | exact zrm1 _ | exact zrm2 _ _ | exact zrm3 _ _ _ | exact zrm4 _ _ _ _ | omega) only [m201, ↓k_dp, ↓k_dn, k_dp, k_dn, k_dT, k_dF, k_ip, k_in, if_true, if_false, ne_eq, not_true_eq_false, not_false_eq_true, Int.reduceAdd, zup_a, zup_e, zup_j, z32_id, k_al0, k_v1, k_v1r, k_ifne, k_ic, k_rz, k_gI, k_is4, k_il2, k_il4, k_iadd, k_v2r, k_ifeq, k_il1, k_il3, k_v3r, k_goto, zb0_some, zb1_some, e201_0, e201_1, e201_4, e201_5, e201_8, e201_11, e201_12, e201_13, e201_14, e201_17, e201_19, e201_20, e201_21, e201_23, e201_24, e201_27, e201_30, e201_31, e201_32, e201_34, e201_35, e201_36, e201_37, e201_38, e201_41, e201_44, e201_47, e201_48, e201_51, e201_52, a2, b2, h13, g2', c2, hp]
        · exact fun x y z1 z2 z3 => by rw [zup_f (by omega), c3 x y (by omega)]; exact fA x y z1 z2 z3
        · exact fun x y z1 z2 z3 z4 => by rw [zup_f (by omega), c4 x y (by omega)]; exact fB x y z1 z2 z3 z4
        · exact tkR_fr d4 (fun x y z => zup_f (by omega)) (fun x y z => zup_f (by omega))
        · rw [d3]
          exact vl_u (vl_ag v4 c3 c4) (Or.inr (Or.inr (Or.inr (Or.inl ⟨rfl, rfl, by omega, by omega, by omega, by omega⟩))))
        · rw [zup_f (by omega)]
          omega
      · have hp := r_putN (e + 1) (by omega) y0 (7 + w) 0 0 B4
        refine ⟨A4, B4, 0, ?_, ?_, frV_X fA c3, frW_Y fB c4, Or.inr ⟨rfl, d1⟩⟩
        · simp (disch := first | assumption | exact zrm0 | exact zrm1 _ | exact zrm2 _ _ | exact zrm3 _ _ _ | exact zrm4 _ _ _ _ | omega) only [m87, ↓k_dp, ↓k_dn, k_dp, k_dn, k_dT, k_dF, k_ip, k_in, if_true, if_false, ne_eq, not_true_eq_false, not_false_eq_true, Int.reduceAdd, zup_a, zup_e, zup_j, z32_id, k_al0, k_gR, k_v1, k_v1r, k_is4, k_il4, k_ic, k_iceq, k_al1, k_len, k_icge, k_il2, k_ishl, k_v2r, k_ifne, k_rz, k_il3, k_v3r, k_is5, k_il5, k_icne, k_ist, zb0_some, zb1_some, e87_0, e87_1, e87_4, e87_7, e87_8, e87_11, e87_14, e87_16, e87_18, e87_19, e87_22, e87_24, e87_25, e87_26, e87_29, e87_30, e87_31, e87_33, e87_34, e87_37, e87_40, e87_41, e87_42, e87_43, e87_46, e87_49, e87_50, e87_53, e87_54, e87_55, e87_58, e87_60, e87_62, e87_63, e87_66, e87_67, e87_68, e87_69, e87_71, e87_73, e87_74, e87_75, a1, b1, hmk, g1, k1, c1]
        · simp (disch := first | assumption | exact zrm0 | exact zrm1 _ | exact zrm2 _ _ | exact zrm3 _ _ _ | exact zrm4 _ _ _ _ | omega) only [m201, ↓k_dp, ↓k_dn, k_dp, k_dn, k_dT, k_dF, k_ip, k_in, if_true, if_false, ne_eq, not_true_eq_false, not_false_eq_true, Int.reduceAdd, zup_a, zup_e, zup_j, z32_id, k_al0, k_v1, k_v1r, k_ifne, k_ic, k_rz, k_gI, k_is4, k_il2, k_il4, k_iadd, k_v2r, k_ifeq, k_il1, k_il3, k_v3r, k_goto, zb0_some, zb1_some, e201_0, e201_1, e201_4, e201_5, e201_8, e201_11, e201_12, e201_13, e201_14, e201_17, e201_19, e201_20, e201_21, e201_23, e201_24, e201_27, e201_30, e201_31, e201_32, e201_34, e201_35, e201_36, e201_37, e201_38, e201_41, e201_44, e201_47, e201_48, e201_51, e201_52, a2, b2, h13, g2', c2, hp]
    · refine ⟨A3, B3, 0, ?_, ?_, fun x y z1 z2 z3 => ?_, fun x y z1 z2 z3 z4 => ?_, Or.inr ⟨rfl, g5⟩⟩
      · simp (disch := first | assumption | exact zrm0 | exact zrm1 _ | exact zrm2 _ _ | exact zrm3 _ _ _ | exact zrm4 _ _ _ _ | omega) only [m87, ↓k_dp, ↓k_dn, k_dp, k_dn, k_dT, k_dF, k_ip, k_in, if_true, if_false, ne_eq, not_true_eq_false, not_false_eq_true, Int.reduceAdd, zup_a, zup_e, zup_j, z32_id, k_al0, k_gR, k_v1, k_v1r, k_is4, k_il4, k_ic, k_iceq, k_al1, k_len, k_icge, k_il2, k_ishl, k_v2r, k_ifne, k_rz, k_il3, k_v3r, k_is5, k_il5, k_icne, k_ist, zb0_some, zb1_some, e87_0, e87_1, e87_4, e87_7, e87_8, e87_11, e87_14, e87_16, e87_18, e87_19, e87_22, e87_24, e87_25, e87_26, e87_29, e87_30, e87_31, e87_33, e87_34, e87_37, e87_40, e87_41, e87_42, e87_43, e87_46, e87_49, e87_50, e87_53, e87_54, e87_55, e87_58, e87_60, e87_62, e87_63, e87_66, e87_67, e87_68, e87_69, e87_71, e87_73, e87_74, e87_75, a1, b1, hmk, g1]
      · simp (disch := first | assumption | exact zrm0 | exact zrm1 _ | exact zrm2 _ _ | exact zrm3 _ _ _ | exact zrm4 _ _ _ _ | omega) only [m201, ↓k_dp, ↓k_dn, k_dp, k_dn, k_dT, k_dF, k_ip, k_in, if_true, if_false, ne_eq, not_true_eq_false, not_false_eq_true, Int.reduceAdd, zup_a, zup_e, zup_j, z32_id, k_al0, k_v1, k_v1r, k_ifne, k_ic, k_rz, k_gI, k_is4, k_il2, k_il4, k_iadd, k_v2r, k_ifeq, k_il1, k_il3, k_v3r, k_goto, zb0_some, zb1_some, e201_0, e201_1, e201_4, e201_5, e201_8, e201_11, e201_12, e201_13, e201_14, e201_17, e201_19, e201_20, e201_21, e201_23, e201_24, e201_27, e201_30, e201_31, e201_32, e201_34, e201_35, e201_36, e201_37, e201_38, e201_41, e201_44, e201_47, e201_48, e201_51, e201_52, a2, b2, h13, g2]
      · rw [g3 x y (by omega)]; exact a4 x y (by omega)
      · rw [g4 x y z1, b4 x y z1]; exact a5 x y (by omega)
  · refine ⟨A2, B2, 0, ?_, ?_, fun x y z1 z2 z3 => ?_, fun x y z1 z2 z3 z4 => ?_, Or.inr ⟨rfl, b5⟩⟩
    · simp (disch := first | assumption | exact zrm0 | exact zrm1 _ | exact zrm2 _ _ | exact zrm3 _ _ _ | exact zrm4 _ _ _ _ | omega) only [m87, ↓k_dp, ↓k_dn, k_dp, k_dn, k_dT, k_dF, k_ip, k_in, if_true, if_false, ne_eq, not_true_eq_false, not_false_eq_true, Int.reduceAdd, zup_a, zup_e, zup_j, z32_id, k_al0, k_gR, k_v1, k_v1r, k_is4, k_il4, k_ic, k_iceq, k_al1, k_len, k_icge, k_il2, k_ishl, k_v2r, k_ifne, k_rz, k_il3, k_v3r, k_is5, k_il5, k_icne, k_ist, zb0_some, zb1_some, e87_0, e87_1, e87_4, e87_7, e87_8, e87_11, e87_14, e87_16, e87_18, e87_19, e87_22, e87_24, e87_25, e87_26, e87_29, e87_30, e87_31, e87_33, e87_34, e87_37, e87_40, e87_41, e87_42, e87_43, e87_46, e87_49, e87_50, e87_53, e87_54, e87_55, e87_58, e87_60, e87_62, e87_63, e87_66, e87_67, e87_68, e87_69, e87_71, e87_73, e87_74, e87_75, a1, b1]
    · simp (disch := first | assumption | exact zrm0 | exact zrm1 _ | exact zrm2 _ _ | exact zrm3 _ _ _ | exact zrm4 _ _ _ _ | omega) only [m201, ↓k_dp, ↓k_dn, k_dp, k_dn, k_dT, k_dF, k_ip, k_in, if_true, if_false, ne_eq, not_true_eq_false, not_false_eq_true, Int.reduceAdd, zup_a, zup_e, zup_j, z32_id, k_al0, k_v1, k_v1r, k_ifne, k_ic, k_rz, k_gI, k_is4, k_il2, k_il4, k_iadd, k_v2r, k_ifeq, k_il1, k_il3, k_v3r, k_goto, zb0_some, zb1_some, e201_0, e201_1, e201_4, e201_5, e201_8, e201_11, e201_12, e201_13, e201_14, e201_17, e201_19, e201_20, e201_21, e201_23, e201_24, e201_27, e201_30, e201_31, e201_32, e201_34, e201_35, e201_36, e201_37, e201_38, e201_41, e201_44, e201_47, e201_48, e201_51, e201_52, a2, b2]
    · rw [b3 x y (by omega)]; exact a4 x y (by omega)
    · rw [b4 x y z1]; exact a5 x y (by omega)
theorem p_grants {A B : zM} (h : tkR A B) (v : vlP A B) (c5 : A 2 5 = 2) (D E : Nat) (hD : 9 ≤ D) (hE : 8 ≤ E) (x0 y0 : Int) : ∃ A' B' r, zEm true D 86 [(24, 1, x0)] A = some ((0, r, 0), A') ∧ zEm true E 200 [(30, 197, y0)] B = some ((0, r, 0), B') ∧ frV A A' ∧ frW B B' ∧ lnC A A' B' r := by
  obtain ⟨d, rfl⟩ : ∃ d, D = d + 1 := ⟨D - 1, by omega⟩
  obtain ⟨e, rfl⟩ : ∃ e, E = e + 1 := ⟨E - 1, by omega⟩
  obtain ⟨A1, B1, a1, a2, a3, a4, a5, a6⟩ := p_go h.1 d e (by omega) (by omega) 0 y0
  have hp1 := a6 _ (tk_pg h (by omega)).1 (tk_pg h (by omega)).2
  have v1 : vlP A1 B1 := vl_ag v (agX_a a4) (agY_g a5)
  have k0 := v1.k0
  have k2 := v1.k2
  obtain ⟨A2, B2, r, q, b1, b2, b3, b4, b5⟩ := p_readOne a3 d e (by omega) (by omega) 7 5 15 (A1 4 8) 0 y0 0 0 0 (by omega) (by omega) (by omega) (by omega) (by omega) v1.n3
  rw [k2.1] at b2
  rcases b5 with ⟨rfl, hq, h13, b5, b6⟩ | ⟨rfl, rfl, b5⟩
  · have v2 : vlP A2 B2 := vl_ag v1 b3 b4
    have j0 := v2.k0
    obtain ⟨A3, B3, r, s, f1, f2, f3, f4, f5⟩ := p_isOne b5 d e (by omega) (by omega) 5 5 0 (A2 4 6) 0 y0 0 0 0 (by omega) (by omega) (by omega) (by omega) (by omega) v2.n1
    rw [j0.1] at f2
    rcases f5 with ⟨rfl, hs, e1, e2, h5⟩ | ⟨rfl, rfl, f5⟩
    · subst e1
      have g13 : B3 197 13 = s := by rw [e2, zup_e (by omega)]
      have hT3 : tkR A3 B3 := tkR_fr b5 (fun _ _ _ => rfl) (fun x y z => by rw [e2, zup_f (by omega)])
      have v3 : vlP A3 B3 := vl_ag v2 agX_r f4
      have hg := v3.gr (q * 5 + s) (by omega) (by omega)
      have hgt := s_grantTo (d - 1) 4 0 q 0 s 0 A3 (by omega) (by omega) (by omega) (by omega)
      rw [show d - 1 + 1 = d by omega, zvG_5 (by omega) (by omega)] at hgt
      have hg9 : A3 (4 + 5) (q * 5 + s) = A3 9 (q * 5 + s) := rfl
      rw [hg9] at hgt
      have ei : 50 + 5 * q + s = 50 + (q * 5 + s) := by omega
      by_cases cg : A3 9 (q * 5 + s) = 0
      · obtain ⟨A4, B4, k1, k2', k3, k4, k5, k6⟩ := p_go hT3.1 d e (by omega) (by omega) 0 y0
        have hp3 := k6 _ (tk_pg hT3 (by omega)).1 (tk_pg hT3 (by omega)).2
        have v4 : vlP A4 B4 := vl_ag v3 (agX_a k4) (agY_g k5)
        obtain ⟨A5, B5, r, n, c1, c2, c3, c4, c5⟩ := p_num k3 d e (by omega) (by omega) 1 9 0 y0 0 0 0 0
        have fA : frV A A5 := fun x y z1 z2 z3 => by rw [c3 x y (by omega), k4 x y (by omega), b3 x y (by omega)]; exact a4 x y (by omega)
        have fB : frW B B5 := fun x y z1 z2 z3 z4 => by rw [c4 x y z1, k5 x y (by omega), f4 x y z1, b4 x y z1]; exact a5 x y (by omega)
        have gB : B3 200 (50 + 5 * q + s) ≤ 0 := by rw [ei, ← hg.1]; omega
        rcases c5 with ⟨rfl, d1, d2, d3, d4, d5⟩ | ⟨rfl, rfl, d1⟩
        · have hp := r_putY e (by omega) y0 (50 + 5 * q + s) 0 0 B5 (by omega) (by omega)
          refine ⟨zup A5 9 (q * 5 + s) n, zup B5 200 (50 + 5 * q + s) (B5 197 13), 1, ?_, ?_, ?_, ?_, Or.inl ⟨rfl, ?_, ?_, ?_⟩⟩
          · simp (disch := first | assumption | exact zrm0 | exact zrm1 _ | exact zrm2 _ _ | exact zrm3 _ _ _ | exact zrm4 _ _ _ _ | omega) only [m86, ↓k_dp, ↓k_dn, k_dp, k_dn, k_dT, k_dF, k_ip, k_in, if_true, if_false, ne_eq, not_true_eq_false, not_false_eq_true, Int.reduceAdd, zup_a, zup_e, zup_j, z32_id, k_al0, k_gR, k_v1, k_gI, k_v3r, k_is1, k_il1, k_ic, k_icne, k_goto, k_is2, k_il2, k_rz, k_ifeq, k_v2r, k_is3, k_il3, k_imul, k_iadd, k_ist, zb0_some, zb1_some, e86_0, e86_1, e86_4, e86_7, e86_8, e86_11, e86_12, e86_15, e86_18, e86_19, e86_22, e86_25, e86_28, e86_29, e86_30, e86_31, e86_34, e86_35, e86_38, e86_39, e86_42, e86_43, e86_46, e86_49, e86_50, e86_53, e86_56, e86_59, e86_60, e86_61, e86_62, e86_65, e86_66, e86_67, e86_68, e86_71, e86_72, e86_73, e86_76, e86_79, e86_80, e86_83, e86_84, e86_87, e86_88, e86_89, e86_92, e86_95, e86_96, e86_99, e86_100, e86_102, e86_105, e86_106, e86_107, e86_108, e86_111, e86_112, e86_113, e86_114, e86_117, e86_120, e86_121, e86_122, e86_123, e86_124, e86_125, e86_126, e86_127, e86_128, a1, b1, f1, hgt, k1, c1]
          · simp (disch := first | assumption | exact zrm0 | exact zrm1 _ | exact zrm2 _ _ | exact zrm3 _ _ _ | exact zrm4 _ _ _ _ | omega) only [m200, ↓k_dp, ↓k_dn, k_dp, k_dn, k_dT, k_dF, k_ip, k_in, if_true, if_false, ne_eq, not_true_eq_false, not_false_eq_true, Int.reduceAdd, zup_a, zup_e, zup_j, z32_id, k_al0, k_v1, k_ic, k_gR, k_ild, k_ildS, k_ildW, k_v3r, k_ifne, k_rz, k_gI, k_imul, k_iadd, k_is1, k_il1, k_ifle, k_v2r, zb0_some, zb1_some, e200_0, e200_1, e200_4, e200_5, e200_7, e200_8, e200_11, e200_12, e200_13, e200_16, e200_19, e200_20, e200_21, e200_23, e200_24, e200_25, e200_28, e200_29, e200_30, e200_31, e200_32, e200_33, e200_34, e200_37, e200_38, e200_39, e200_42, e200_45, e200_46, e200_47, e200_48, e200_49, e200_52, e200_53, e200_54, e200_55, e200_58, e200_59, e200_60, e200_63, e200_64, e200_65, e200_68, e200_69, e200_70, e200_73, e200_74, e200_75, e200_76, e200_77, e200_79, e200_82, e200_85, a2, b2, h13, f2, g13, k2', c2, hp]
          · exact fun x y z1 z2 z3 => by rw [zup_f (by omega)]; exact fA x y z1 z2 z3
          · exact fun x y z1 z2 z3 z4 => by rw [zup_f (by omega)]; exact fB x y z1 z2 z3 z4
          · exact tkR_fr d4 (fun x y z => zup_f (by omega)) (fun x y z => zup_f (by omega))
          · rw [d3]
            exact vl_u (vl_ag v4 c3 c4) (Or.inr (Or.inr (Or.inl ⟨rfl, ei, by omega, by omega, by omega, by omega⟩)))
          · rw [zup_f (by omega)]
            omega
        · have hp := r_putN e (by omega) y0 (50 + 5 * q + s) 0 0 B5
          refine ⟨A5, B5, 0, ?_, ?_, fA, fB, Or.inr ⟨rfl, d1⟩⟩
          · simp (disch := first | assumption | exact zrm0 | exact zrm1 _ | exact zrm2 _ _ | exact zrm3 _ _ _ | exact zrm4 _ _ _ _ | omega) only [m86, ↓k_dp, ↓k_dn, k_dp, k_dn, k_dT, k_dF, k_ip, k_in, if_true, if_false, ne_eq, not_true_eq_false, not_false_eq_true, Int.reduceAdd, zup_a, zup_e, zup_j, z32_id, k_al0, k_gR, k_v1, k_gI, k_v3r, k_is1, k_il1, k_ic, k_icne, k_goto, k_is2, k_il2, k_rz, k_ifeq, k_v2r, k_is3, k_il3, k_imul, k_iadd, k_ist, zb0_some, zb1_some, e86_0, e86_1, e86_4, e86_7, e86_8, e86_11, e86_12, e86_15, e86_18, e86_19, e86_22, e86_25, e86_28, e86_29, e86_30, e86_31, e86_34, e86_35, e86_38, e86_39, e86_42, e86_43, e86_46, e86_49, e86_50, e86_53, e86_56, e86_59, e86_60, e86_61, e86_62, e86_65, e86_66, e86_67, e86_68, e86_71, e86_72, e86_73, e86_76, e86_79, e86_80, e86_83, e86_84, e86_87, e86_88, e86_89, e86_92, e86_95, e86_96, e86_99, e86_100, e86_102, e86_105, e86_106, e86_107, e86_108, e86_111, e86_112, e86_113, e86_114, e86_117, e86_120, e86_121, e86_122, e86_123, e86_124, e86_125, e86_126, e86_127, e86_128, a1, b1, f1, hgt, k1, c1]
          · simp (disch := first | assumption | exact zrm0 | exact zrm1 _ | exact zrm2 _ _ | exact zrm3 _ _ _ | exact zrm4 _ _ _ _ | omega) only [m200, ↓k_dp, ↓k_dn, k_dp, k_dn, k_dT, k_dF, k_ip, k_in, if_true, if_false, ne_eq, not_true_eq_false, not_false_eq_true, Int.reduceAdd, zup_a, zup_e, zup_j, z32_id, k_al0, k_v1, k_ic, k_gR, k_ild, k_ildS, k_ildW, k_v3r, k_ifne, k_rz, k_gI, k_imul, k_iadd, k_is1, k_il1, k_ifle, k_v2r, zb0_some, zb1_some, e200_0, e200_1, e200_4, e200_5, e200_7, e200_8, e200_11, e200_12, e200_13, e200_16, e200_19, e200_20, e200_21, e200_23, e200_24, e200_25, e200_28, e200_29, e200_30, e200_31, e200_32, e200_33, e200_34, e200_37, e200_38, e200_39, e200_42, e200_45, e200_46, e200_47, e200_48, e200_49, e200_52, e200_53, e200_54, e200_55, e200_58, e200_59, e200_60, e200_63, e200_64, e200_65, e200_68, e200_69, e200_70, e200_73, e200_74, e200_75, e200_76, e200_77, e200_79, e200_82, e200_85, a2, b2, h13, f2, g13, k2', c2, hp]
      · have h27 : B3 197 7 = 2 := hT3.2.wo h5
        have gB : ¬ B3 200 (50 + 5 * q + s) ≤ 0 := by rw [ei, ← hg.1]; omega
        obtain ⟨Af, Bf, z1, z2, z3, z4, z5⟩ := p_fail hT3 (k := 3) (by omega) (by omega) (fun z => by omega)
        have z1' := z1 d 0 0 (by omega)
        have z2' := z2 e y0 0 (by omega)
        refine ⟨Af, Bf, 0, ?_, ?_, fun x y p1 p2 p3 => ?_, fun x y p1 p2 p3 p4 => ?_, Or.inr ⟨rfl, z5⟩⟩
        · simp (disch := first | assumption | exact zrm0 | exact zrm1 _ | exact zrm2 _ _ | exact zrm3 _ _ _ | exact zrm4 _ _ _ _ | omega) only [m86, ↓k_dp, ↓k_dn, k_dp, k_dn, k_dT, k_dF, k_ip, k_in, if_true, if_false, ne_eq, not_true_eq_false, not_false_eq_true, Int.reduceAdd, zup_a, zup_e, zup_j, z32_id, k_al0, k_gR, k_v1, k_gI, k_v3r, k_is1, k_il1, k_ic, k_icne, k_goto, k_is2, k_il2, k_rz, k_ifeq, k_v2r, k_is3, k_il3, k_imul, k_iadd, k_ist, zb0_some, zb1_some, e86_0, e86_1, e86_4, e86_7, e86_8, e86_11, e86_12, e86_15, e86_18, e86_19, e86_22, e86_25, e86_28, e86_29, e86_30, e86_31, e86_34, e86_35, e86_38, e86_39, e86_42, e86_43, e86_46, e86_49, e86_50, e86_53, e86_56, e86_59, e86_60, e86_61, e86_62, e86_65, e86_66, e86_67, e86_68, e86_71, e86_72, e86_73, e86_76, e86_79, e86_80, e86_83, e86_84, e86_87, e86_88, e86_89, e86_92, e86_95, e86_96, e86_99, e86_100, e86_102, e86_105, e86_106, e86_107, e86_108, e86_111, e86_112, e86_113, e86_114, e86_117, e86_120, e86_121, e86_122, e86_123, e86_124, e86_125, e86_126, e86_127, e86_128, a1, b1, f1, hgt, z1']
        · simp (disch := first | assumption | exact zrm0 | exact zrm1 _ | exact zrm2 _ _ | exact zrm3 _ _ _ | exact zrm4 _ _ _ _ | omega) only [m200, ↓k_dp, ↓k_dn, k_dp, k_dn, k_dT, k_dF, k_ip, k_in, if_true, if_false, ne_eq, not_true_eq_false, not_false_eq_true, Int.reduceAdd, zup_a, zup_e, zup_j, z32_id, k_al0, k_v1, k_ic, k_gR, k_ild, k_ildS, k_ildW, k_v3r, k_ifne, k_rz, k_gI, k_imul, k_iadd, k_is1, k_il1, k_ifle, k_v2r, zb0_some, zb1_some, e200_0, e200_1, e200_4, e200_5, e200_7, e200_8, e200_11, e200_12, e200_13, e200_16, e200_19, e200_20, e200_21, e200_23, e200_24, e200_25, e200_28, e200_29, e200_30, e200_31, e200_32, e200_33, e200_34, e200_37, e200_38, e200_39, e200_42, e200_45, e200_46, e200_47, e200_48, e200_49, e200_52, e200_53, e200_54, e200_55, e200_58, e200_59, e200_60, e200_63, e200_64, e200_65, e200_68, e200_69, e200_70, e200_73, e200_74, e200_75, e200_76, e200_77, e200_79, e200_82, e200_85, a2, b2, h13, f2, g13, z2']
        · rw [z3 x y (by omega), b3 x y (by omega)]; exact a4 x y (by omega)
        · rw [z4 x y p1, f4 x y p1, b4 x y p1]; exact a5 x y (by omega)
    · refine ⟨A3, B3, 0, ?_, ?_, fun x y p1 p2 p3 => ?_, fun x y p1 p2 p3 p4 => ?_, Or.inr ⟨rfl, f5⟩⟩
      · simp (disch := first | assumption | exact zrm0 | exact zrm1 _ | exact zrm2 _ _ | exact zrm3 _ _ _ | exact zrm4 _ _ _ _ | omega) only [m86, ↓k_dp, ↓k_dn, k_dp, k_dn, k_dT, k_dF, k_ip, k_in, if_true, if_false, ne_eq, not_true_eq_false, not_false_eq_true, Int.reduceAdd, zup_a, zup_e, zup_j, z32_id, k_al0, k_gR, k_v1, k_gI, k_v3r, k_is1, k_il1, k_ic, k_icne, k_goto, k_is2, k_il2, k_rz, k_ifeq, k_v2r, k_is3, k_il3, k_imul, k_iadd, k_ist, zb0_some, zb1_some, e86_0, e86_1, e86_4, e86_7, e86_8, e86_11, e86_12, e86_15, e86_18, e86_19, e86_22, e86_25, e86_28, e86_29, e86_30, e86_31, e86_34, e86_35, e86_38, e86_39, e86_42, e86_43, e86_46, e86_49, e86_50, e86_53, e86_56, e86_59, e86_60, e86_61, e86_62, e86_65, e86_66, e86_67, e86_68, e86_71, e86_72, e86_73, e86_76, e86_79, e86_80, e86_83, e86_84, e86_87, e86_88, e86_89, e86_92, e86_95, e86_96, e86_99, e86_100, e86_102, e86_105, e86_106, e86_107, e86_108, e86_111, e86_112, e86_113, e86_114, e86_117, e86_120, e86_121, e86_122, e86_123, e86_124, e86_125, e86_126, e86_127, e86_128, a1, b1, f1]
      · simp (disch := first | assumption | exact zrm0 | exact zrm1 _ | exact zrm2 _ _ | exact zrm3 _ _ _ | exact zrm4 _ _ _ _ | omega) only [m200, ↓k_dp, ↓k_dn, k_dp, k_dn, k_dT, k_dF, k_ip, k_in, if_true, if_false, ne_eq, not_true_eq_false, not_false_eq_true, Int.reduceAdd, zup_a, zup_e, zup_j, z32_id, k_al0, k_v1, k_ic, k_gR, k_ild, k_ildS, k_ildW, k_v3r, k_ifne, k_rz, k_gI, k_imul, k_iadd, k_is1, k_il1, k_ifle, k_v2r, zb0_some, zb1_some, e200_0, e200_1, e200_4, e200_5, e200_7, e200_8, e200_11, e200_12, e200_13, e200_16, e200_19, e200_20, e200_21, e200_23, e200_24, e200_25, e200_28, e200_29, e200_30, e200_31, e200_32, e200_33, e200_34, e200_37, e200_38, e200_39, e200_42, e200_45, e200_46, e200_47, e200_48, e200_49, e200_52, e200_53, e200_54, e200_55, e200_58, e200_59, e200_60, e200_63, e200_64, e200_65, e200_68, e200_69, e200_70, e200_73, e200_74, e200_75, e200_76, e200_77, e200_79, e200_82, e200_85, a2, b2, h13, f2]
      · rw [f3 x y (by omega), b3 x y (by omega)]; exact a4 x y (by omega)
      · rw [f4 x y p1, b4 x y p1]; exact a5 x y (by omega)
  · refine ⟨A2, B2, 0, ?_, ?_, fun x y p1 p2 p3 => ?_, fun x y p1 p2 p3 p4 => ?_, Or.inr ⟨rfl, b5⟩⟩
    · simp (disch := first | assumption | exact zrm0 | exact zrm1 _ | exact zrm2 _ _ | exact zrm3 _ _ _ | exact zrm4 _ _ _ _ | omega) only [m86, ↓k_dp, ↓k_dn, k_dp, k_dn, k_dT, k_dF, k_ip, k_in, if_true, if_false, ne_eq, not_true_eq_false, not_false_eq_true, Int.reduceAdd, zup_a, zup_e, zup_j, z32_id, k_al0, k_gR, k_v1, k_gI, k_v3r, k_is1, k_il1, k_ic, k_icne, k_goto, k_is2, k_il2, k_rz, k_ifeq, k_v2r, k_is3, k_il3, k_imul, k_iadd, k_ist, zb0_some, zb1_some, e86_0, e86_1, e86_4, e86_7, e86_8, e86_11, e86_12, e86_15, e86_18, e86_19, e86_22, e86_25, e86_28, e86_29, e86_30, e86_31, e86_34, e86_35, e86_38, e86_39, e86_42, e86_43, e86_46, e86_49, e86_50, e86_53, e86_56, e86_59, e86_60, e86_61, e86_62, e86_65, e86_66, e86_67, e86_68, e86_71, e86_72, e86_73, e86_76, e86_79, e86_80, e86_83, e86_84, e86_87, e86_88, e86_89, e86_92, e86_95, e86_96, e86_99, e86_100, e86_102, e86_105, e86_106, e86_107, e86_108, e86_111, e86_112, e86_113, e86_114, e86_117, e86_120, e86_121, e86_122, e86_123, e86_124, e86_125, e86_126, e86_127, e86_128, a1, b1]
    · simp (disch := first | assumption | exact zrm0 | exact zrm1 _ | exact zrm2 _ _ | exact zrm3 _ _ _ | exact zrm4 _ _ _ _ | omega) only [m200, ↓k_dp, ↓k_dn, k_dp, k_dn, k_dT, k_dF, k_ip, k_in, if_true, if_false, ne_eq, not_true_eq_false, not_false_eq_true, Int.reduceAdd, zup_a, zup_e, zup_j, z32_id, k_al0, k_v1, k_ic, k_gR, k_ild, k_ildS, k_ildW, k_v3r, k_ifne, k_rz, k_gI, k_imul, k_iadd, k_is1, k_il1, k_ifle, k_v2r, zb0_some, zb1_some, e200_0, e200_1, e200_4, e200_5, e200_7, e200_8, e200_11, e200_12, e200_13, e200_16, e200_19, e200_20, e200_21, e200_23, e200_24, e200_25, e200_28, e200_29, e200_30, e200_31, e200_32, e200_33, e200_34, e200_37, e200_38, e200_39, e200_42, e200_45, e200_46, e200_47, e200_48, e200_49, e200_52, e200_53, e200_54, e200_55, e200_58, e200_59, e200_60, e200_63, e200_64, e200_65, e200_68, e200_69, e200_70, e200_73, e200_74, e200_75, e200_76, e200_77, e200_79, e200_82, e200_85, a2, b2]
    · rw [b3 x y (by omega)]; exact a4 x y (by omega)
    · rw [b4 x y p1]; exact a5 x y (by omega)
