/-! a line of a book is lived -/
theorem m65 (ph : Bool) (d : Nat) (a x0 p0 y0 p1 y1 p2 y2 : Int) (M : zM) : zEm ph (d + 1) 65 [(20, a, x0), (28, p0, y0), (26, p1, y1), (0, p2, y2)] M = zEv ph d 65 0 [(20, a, x0), (28, p0, y0), (26, p1, y1), (0, p2, y2), (3, 0, 0)] [] M := rfl
theorem e65_0 (ph : Bool) (d : Nat) (L st : List zV) (M : zM) : zEv ph d 65 0 L st M = zcont ph d 65 (zstep ph (zEm ph d) 2 1 0 [3] L st M) := zEv_step rfl
theorem e65_1 (ph : Bool) (d : Nat) (L st : List zV) (M : zM) : zEv ph d 65 1 L st M = zcont ph d 65 (zstep ph (zEm ph d) 42 4 12 [] L st M) := zEv_step rfl
theorem e65_4 (ph : Bool) (d : Nat) (L st : List zV) (M : zM) : zEv ph d 65 4 L st M = zcont ph d 65 (zstep ph (zEm ph d) 2 5 0 [3] L st M) := zEv_step rfl
theorem e65_5 (ph : Bool) (d : Nat) (L st : List zV) (M : zM) : zEv ph d 65 5 L st M = zcont ph d 65 (zstep ph (zEm ph d) 4 6 0 [0] L st M) := zEv_step rfl
theorem e65_6 (ph : Bool) (d : Nat) (L st : List zV) (M : zM) : zEv ph d 65 6 L st M = zcont ph d 65 (zstep ph (zEm ph d) 60 9 0 [20, 4] L st M) := zEv_step rfl
theorem e65_9 (ph : Bool) (d : Nat) (L st : List zV) (M : zM) : zEv ph d 65 9 L st M = zcont ph d 65 (zstep ph (zEm ph d) 48 12 14 [] L st M) := zEv_step rfl
theorem e65_12 (ph : Bool) (d : Nat) (L st : List zV) (M : zM) : zEv ph d 65 12 L st M = zcont ph d 65 (zstep ph (zEm ph d) 0 13 0 [0] L st M) := zEv_step rfl
theorem e65_13 (ph : Bool) (d : Nat) (L st : List zV) (M : zM) : zEv ph d 65 13 L st M = zcont ph d 65 (zstep ph (zEm ph d) 80 14 0 [] L st M) := zEv_step rfl
theorem e65_14 (ph : Bool) (d : Nat) (L st : List zV) (M : zM) : zEv ph d 65 14 L st M = zcont ph d 65 (zstep ph (zEm ph d) 4 15 0 [0] L st M) := zEv_step rfl
theorem e65_15 (ph : Bool) (d : Nat) (L st : List zV) (M : zM) : zEv ph d 65 15 L st M = zcont ph d 65 (zstep ph (zEm ph d) 4 16 0 [1] L st M) := zEv_step rfl
theorem e65_16 (ph : Bool) (d : Nat) (L st : List zV) (M : zM) : zEv ph d 65 16 L st M = zcont ph d 65 (zstep ph (zEm ph d) 4 17 0 [2] L st M) := zEv_step rfl
theorem e65_17 (ph : Bool) (d : Nat) (L st : List zV) (M : zM) : zEv ph d 65 17 L st M = zcont ph d 65 (zstep ph (zEm ph d) 2 18 0 [3] L st M) := zEv_step rfl
theorem e65_18 (ph : Bool) (d : Nat) (L st : List zV) (M : zM) : zEv ph d 65 18 L st M = zcont ph d 65 (zstep ph (zEm ph d) 70 21 66 [4, 1, 20] L st M) := zEv_step rfl
theorem e65_21 (ph : Bool) (d : Nat) (L st : List zV) (M : zM) : zEv ph d 65 21 L st M = zcont ph d 65 (zstep ph (zEm ph d) 5 23 0 [4] L st M) := zEv_step rfl
theorem e65_23 (ph : Bool) (d : Nat) (L st : List zV) (M : zM) : zEv ph d 65 23 L st M = zcont ph d 65 (zstep ph (zEm ph d) 2 25 0 [4] L st M) := zEv_step rfl
theorem e65_25 (ph : Bool) (d : Nat) (L st : List zV) (M : zM) : zEv ph d 65 25 L st M = zcont ph d 65 (zstep ph (zEm ph d) 41 28 32 [] L st M) := zEv_step rfl
theorem e65_28 (ph : Bool) (d : Nat) (L st : List zV) (M : zM) : zEv ph d 65 28 L st M = zcont ph d 65 (zstep ph (zEm ph d) 0 29 0 [0] L st M) := zEv_step rfl
theorem e65_29 (ph : Bool) (d : Nat) (L st : List zV) (M : zM) : zEv ph d 65 29 L st M = zcont ph d 65 (zstep ph (zEm ph d) 52 32 41 [] L st M) := zEv_step rfl
theorem e65_32 (ph : Bool) (d : Nat) (L st : List zV) (M : zM) : zEv ph d 65 32 L st M = zcont ph d 65 (zstep ph (zEm ph d) 4 33 0 [0] L st M) := zEv_step rfl
theorem e65_33 (ph : Bool) (d : Nat) (L st : List zV) (M : zM) : zEv ph d 65 33 L st M = zcont ph d 65 (zstep ph (zEm ph d) 62 36 0 [20, 0, 1, 10, 40] L st M) := zEv_step rfl
theorem e65_36 (ph : Bool) (d : Nat) (L st : List zV) (M : zM) : zEv ph d 65 36 L st M = zcont ph d 65 (zstep ph (zEm ph d) 2 37 0 [3] L st M) := zEv_step rfl
theorem e65_37 (ph : Bool) (d : Nat) (L st : List zV) (M : zM) : zEv ph d 65 37 L st M = zcont ph d 65 (zstep ph (zEm ph d) 85 38 0 [] L st M) := zEv_step rfl
theorem e65_38 (ph : Bool) (d : Nat) (L st : List zV) (M : zM) : zEv ph d 65 38 L st M = zcont ph d 65 (zstep ph (zEm ph d) 2 40 0 [4] L st M) := zEv_step rfl
theorem e65_40 (ph : Bool) (d : Nat) (L st : List zV) (M : zM) : zEv ph d 65 40 L st M = zcont ph d 65 (zstep ph (zEm ph d) 10 41 0 [] L st M) := zEv_step rfl
theorem e65_41 (ph : Bool) (d : Nat) (L st : List zV) (M : zM) : zEv ph d 65 41 L st M = zcont ph d 65 (zstep ph (zEm ph d) 80 42 0 [] L st M) := zEv_step rfl
theorem m66 (ph : Bool) (d : Nat) (a x0 p0 y0 p1 y1 p2 y2 : Int) (M : zM) : zEm ph (d + 1) 66 [(20, a, x0), (28, p0, y0), (26, p1, y1), (0, p2, y2)] M = zEv ph d 66 0 [(20, a, x0), (28, p0, y0), (26, p1, y1), (0, p2, y2)] [] M := rfl
theorem e66_0 (ph : Bool) (d : Nat) (L st : List zV) (M : zM) : zEv ph d 66 0 L st M = zcont ph d 66 (zstep ph (zEm ph d) 4 1 0 [0] L st M) := zEv_step rfl
theorem e66_1 (ph : Bool) (d : Nat) (L st : List zV) (M : zM) : zEv ph d 66 1 L st M = zcont ph d 66 (zstep ph (zEm ph d) 62 4 0 [20, 0, 1, 10, 40] L st M) := zEv_step rfl
theorem e66_4 (ph : Bool) (d : Nat) (L st : List zV) (M : zM) : zEv ph d 66 4 L st M = zcont ph d 66 (zstep ph (zEm ph d) 2 5 0 [3] L st M) := zEv_step rfl
theorem e66_5 (ph : Bool) (d : Nat) (L st : List zV) (M : zM) : zEv ph d 66 5 L st M = zcont ph d 66 (zstep ph (zEm ph d) 85 6 0 [] L st M) := zEv_step rfl
theorem e66_6 (ph : Bool) (d : Nat) (a y : Int) (L st : List zV) (M : zM) : zEv ph d 66 6 L ((0, a, y) :: st) M = dite (a = 0) (fun _ => zEv ph d 66 72 L st M) (fun _ => dite (a = 10) (fun _ => zEv ph d 66 90 L st M) (fun _ => dite (a = 20) (fun _ => zEv ph d 66 101 L st M) (fun _ => dite (a = 30) (fun _ => zEv ph d 66 112 L st M) (fun _ => dite (a = 40) (fun _ => zEv ph d 66 135 L st M) (fun _ => dite (a = 50) (fun _ => zEv ph d 66 147 L st M) (fun _ => dite (a = 60) (fun _ => zEv ph d 66 164 L st M) (fun _ => zEv ph d 66 175 L st M))))))) := (zEv_step (op := 57) (nx := 72) (tg := 175) (r := [0, 72, 10, 90, 20, 101, 30, 112, 40, 135, 50, 147, 60, 164]) rfl).trans (zls7 (fun q => zEv ph d 66 q L st M))
theorem e66_72 (ph : Bool) (d : Nat) (L st : List zV) (M : zM) : zEv ph d 66 72 L st M = zcont ph d 66 (zstep ph (zEm ph d) 4 73 0 [2] L st M) := zEv_step rfl
theorem e66_73 (ph : Bool) (d : Nat) (L st : List zV) (M : zM) : zEv ph d 66 73 L st M = zcont ph d 66 (zstep ph (zEm ph d) 4 74 0 [1] L st M) := zEv_step rfl
theorem e66_74 (ph : Bool) (d : Nat) (L st : List zV) (M : zM) : zEv ph d 66 74 L st M = zcont ph d 66 (zstep ph (zEm ph d) 4 75 0 [0] L st M) := zEv_step rfl
theorem e66_75 (ph : Bool) (d : Nat) (L st : List zV) (M : zM) : zEv ph d 66 75 L st M = zcont ph d 66 (zstep ph (zEm ph d) 62 78 0 [20, 1, 2, 10, 40] L st M) := zEv_step rfl
theorem e66_78 (ph : Bool) (d : Nat) (L st : List zV) (M : zM) : zEv ph d 66 78 L st M = zcont ph d 66 (zstep ph (zEm ph d) 2 79 0 [3] L st M) := zEv_step rfl
theorem e66_79 (ph : Bool) (d : Nat) (L st : List zV) (M : zM) : zEv ph d 66 79 L st M = zcont ph d 66 (zstep ph (zEm ph d) 85 80 0 [] L st M) := zEv_step rfl
theorem e66_80 (ph : Bool) (d : Nat) (L st : List zV) (M : zM) : zEv ph d 66 80 L st M = zcont ph d 66 (zstep ph (zEm ph d) 4 81 0 [0] L st M) := zEv_step rfl
theorem e66_81 (ph : Bool) (d : Nat) (L st : List zV) (M : zM) : zEv ph d 66 81 L st M = zcont ph d 66 (zstep ph (zEm ph d) 62 84 0 [20, 3, 4, 10, 40] L st M) := zEv_step rfl
theorem e66_84 (ph : Bool) (d : Nat) (L st : List zV) (M : zM) : zEv ph d 66 84 L st M = zcont ph d 66 (zstep ph (zEm ph d) 2 85 0 [3] L st M) := zEv_step rfl
theorem e66_85 (ph : Bool) (d : Nat) (L st : List zV) (M : zM) : zEv ph d 66 85 L st M = zcont ph d 66 (zstep ph (zEm ph d) 85 86 0 [] L st M) := zEv_step rfl
theorem e66_86 (ph : Bool) (d : Nat) (L st : List zV) (M : zM) : zEv ph d 66 86 L st M = zcont ph d 66 (zstep ph (zEm ph d) 70 89 124 [4, 1, 26] L st M) := zEv_step rfl
theorem e66_89 (ph : Bool) (d : Nat) (L st : List zV) (M : zM) : zEv ph d 66 89 L st M = zcont ph d 66 (zstep ph (zEm ph d) 80 90 0 [] L st M) := zEv_step rfl
theorem e66_90 (ph : Bool) (d : Nat) (L st : List zV) (M : zM) : zEv ph d 66 90 L st M = zcont ph d 66 (zstep ph (zEm ph d) 4 91 0 [2] L st M) := zEv_step rfl
theorem e66_91 (ph : Bool) (d : Nat) (L st : List zV) (M : zM) : zEv ph d 66 91 L st M = zcont ph d 66 (zstep ph (zEm ph d) 4 92 0 [0] L st M) := zEv_step rfl
theorem e66_92 (ph : Bool) (d : Nat) (L st : List zV) (M : zM) : zEv ph d 66 92 L st M = zcont ph d 66 (zstep ph (zEm ph d) 62 95 0 [20, 1, 2, 10, 40] L st M) := zEv_step rfl
theorem e66_95 (ph : Bool) (d : Nat) (L st : List zV) (M : zM) : zEv ph d 66 95 L st M = zcont ph d 66 (zstep ph (zEm ph d) 2 96 0 [3] L st M) := zEv_step rfl
theorem e66_96 (ph : Bool) (d : Nat) (L st : List zV) (M : zM) : zEv ph d 66 96 L st M = zcont ph d 66 (zstep ph (zEm ph d) 85 97 0 [] L st M) := zEv_step rfl
theorem e66_97 (ph : Bool) (d : Nat) (L st : List zV) (M : zM) : zEv ph d 66 97 L st M = zcont ph d 66 (zstep ph (zEm ph d) 70 100 125 [2, 1, 26] L st M) := zEv_step rfl
theorem e66_100 (ph : Bool) (d : Nat) (L st : List zV) (M : zM) : zEv ph d 66 100 L st M = zcont ph d 66 (zstep ph (zEm ph d) 80 101 0 [] L st M) := zEv_step rfl
theorem e66_101 (ph : Bool) (d : Nat) (L st : List zV) (M : zM) : zEv ph d 66 101 L st M = zcont ph d 66 (zstep ph (zEm ph d) 4 102 0 [2] L st M) := zEv_step rfl
theorem e66_102 (ph : Bool) (d : Nat) (L st : List zV) (M : zM) : zEv ph d 66 102 L st M = zcont ph d 66 (zstep ph (zEm ph d) 4 103 0 [0] L st M) := zEv_step rfl
theorem e66_103 (ph : Bool) (d : Nat) (L st : List zV) (M : zM) : zEv ph d 66 103 L st M = zcont ph d 66 (zstep ph (zEm ph d) 62 106 0 [20, 1, 2, 10, 40] L st M) := zEv_step rfl
theorem e66_106 (ph : Bool) (d : Nat) (L st : List zV) (M : zM) : zEv ph d 66 106 L st M = zcont ph d 66 (zstep ph (zEm ph d) 2 107 0 [3] L st M) := zEv_step rfl
theorem e66_107 (ph : Bool) (d : Nat) (L st : List zV) (M : zM) : zEv ph d 66 107 L st M = zcont ph d 66 (zstep ph (zEm ph d) 85 108 0 [] L st M) := zEv_step rfl
theorem e66_108 (ph : Bool) (d : Nat) (L st : List zV) (M : zM) : zEv ph d 66 108 L st M = zcont ph d 66 (zstep ph (zEm ph d) 70 111 126 [2, 1, 26] L st M) := zEv_step rfl
theorem e66_111 (ph : Bool) (d : Nat) (L st : List zV) (M : zM) : zEv ph d 66 111 L st M = zcont ph d 66 (zstep ph (zEm ph d) 80 112 0 [] L st M) := zEv_step rfl
theorem e66_112 (ph : Bool) (d : Nat) (L st : List zV) (M : zM) : zEv ph d 66 112 L st M = zcont ph d 66 (zstep ph (zEm ph d) 4 113 0 [2] L st M) := zEv_step rfl
theorem e66_113 (ph : Bool) (d : Nat) (L st : List zV) (M : zM) : zEv ph d 66 113 L st M = zcont ph d 66 (zstep ph (zEm ph d) 4 114 0 [0] L st M) := zEv_step rfl
theorem e66_114 (ph : Bool) (d : Nat) (L st : List zV) (M : zM) : zEv ph d 66 114 L st M = zcont ph d 66 (zstep ph (zEm ph d) 62 117 0 [20, 1, 2, 10, 40] L st M) := zEv_step rfl
theorem e66_117 (ph : Bool) (d : Nat) (L st : List zV) (M : zM) : zEv ph d 66 117 L st M = zcont ph d 66 (zstep ph (zEm ph d) 2 118 0 [3] L st M) := zEv_step rfl
theorem e66_118 (ph : Bool) (d : Nat) (L st : List zV) (M : zM) : zEv ph d 66 118 L st M = zcont ph d 66 (zstep ph (zEm ph d) 85 119 0 [] L st M) := zEv_step rfl
theorem e66_119 (ph : Bool) (d : Nat) (L st : List zV) (M : zM) : zEv ph d 66 119 L st M = zcont ph d 66 (zstep ph (zEm ph d) 4 120 0 [0] L st M) := zEv_step rfl
theorem e66_120 (ph : Bool) (d : Nat) (L st : List zV) (M : zM) : zEv ph d 66 120 L st M = zcont ph d 66 (zstep ph (zEm ph d) 62 123 0 [20, 2, 3, 10, 40] L st M) := zEv_step rfl
theorem e66_123 (ph : Bool) (d : Nat) (L st : List zV) (M : zM) : zEv ph d 66 123 L st M = zcont ph d 66 (zstep ph (zEm ph d) 2 124 0 [3] L st M) := zEv_step rfl
theorem e66_124 (ph : Bool) (d : Nat) (L st : List zV) (M : zM) : zEv ph d 66 124 L st M = zcont ph d 66 (zstep ph (zEm ph d) 85 125 0 [] L st M) := zEv_step rfl
theorem e66_125 (ph : Bool) (d : Nat) (L st : List zV) (M : zM) : zEv ph d 66 125 L st M = zcont ph d 66 (zstep ph (zEm ph d) 4 126 0 [0] L st M) := zEv_step rfl
theorem e66_126 (ph : Bool) (d : Nat) (L st : List zV) (M : zM) : zEv ph d 66 126 L st M = zcont ph d 66 (zstep ph (zEm ph d) 62 129 0 [20, 3, 4, 10, 40] L st M) := zEv_step rfl
theorem e66_129 (ph : Bool) (d : Nat) (L st : List zV) (M : zM) : zEv ph d 66 129 L st M = zcont ph d 66 (zstep ph (zEm ph d) 2 130 0 [3] L st M) := zEv_step rfl
theorem e66_130 (ph : Bool) (d : Nat) (L st : List zV) (M : zM) : zEv ph d 66 130 L st M = zcont ph d 66 (zstep ph (zEm ph d) 85 131 0 [] L st M) := zEv_step rfl
theorem e66_131 (ph : Bool) (d : Nat) (L st : List zV) (M : zM) : zEv ph d 66 131 L st M = zcont ph d 66 (zstep ph (zEm ph d) 70 134 127 [4, 1, 26] L st M) := zEv_step rfl
theorem e66_134 (ph : Bool) (d : Nat) (L st : List zV) (M : zM) : zEv ph d 66 134 L st M = zcont ph d 66 (zstep ph (zEm ph d) 80 135 0 [] L st M) := zEv_step rfl
theorem e66_135 (ph : Bool) (d : Nat) (L st : List zV) (M : zM) : zEv ph d 66 135 L st M = zcont ph d 66 (zstep ph (zEm ph d) 4 136 0 [2] L st M) := zEv_step rfl
theorem e66_136 (ph : Bool) (d : Nat) (L st : List zV) (M : zM) : zEv ph d 66 136 L st M = zcont ph d 66 (zstep ph (zEm ph d) 4 137 0 [1] L st M) := zEv_step rfl
theorem e66_137 (ph : Bool) (d : Nat) (L st : List zV) (M : zM) : zEv ph d 66 137 L st M = zcont ph d 66 (zstep ph (zEm ph d) 4 138 0 [0] L st M) := zEv_step rfl
theorem e66_138 (ph : Bool) (d : Nat) (L st : List zV) (M : zM) : zEv ph d 66 138 L st M = zcont ph d 66 (zstep ph (zEm ph d) 62 141 0 [20, 2, 3, 10, 40] L st M) := zEv_step rfl
theorem e66_141 (ph : Bool) (d : Nat) (L st : List zV) (M : zM) : zEv ph d 66 141 L st M = zcont ph d 66 (zstep ph (zEm ph d) 2 142 0 [3] L st M) := zEv_step rfl
theorem e66_142 (ph : Bool) (d : Nat) (L st : List zV) (M : zM) : zEv ph d 66 142 L st M = zcont ph d 66 (zstep ph (zEm ph d) 85 143 0 [] L st M) := zEv_step rfl
theorem e66_143 (ph : Bool) (d : Nat) (L st : List zV) (M : zM) : zEv ph d 66 143 L st M = zcont ph d 66 (zstep ph (zEm ph d) 70 146 129 [3, 1, 26] L st M) := zEv_step rfl
theorem e66_146 (ph : Bool) (d : Nat) (L st : List zV) (M : zM) : zEv ph d 66 146 L st M = zcont ph d 66 (zstep ph (zEm ph d) 80 147 0 [] L st M) := zEv_step rfl
theorem e66_147 (ph : Bool) (d : Nat) (L st : List zV) (M : zM) : zEv ph d 66 147 L st M = zcont ph d 66 (zstep ph (zEm ph d) 4 148 0 [2] L st M) := zEv_step rfl
theorem e66_148 (ph : Bool) (d : Nat) (L st : List zV) (M : zM) : zEv ph d 66 148 L st M = zcont ph d 66 (zstep ph (zEm ph d) 4 149 0 [0] L st M) := zEv_step rfl
theorem e66_149 (ph : Bool) (d : Nat) (L st : List zV) (M : zM) : zEv ph d 66 149 L st M = zcont ph d 66 (zstep ph (zEm ph d) 62 152 0 [20, 2, 3, 10, 40] L st M) := zEv_step rfl
theorem e66_152 (ph : Bool) (d : Nat) (L st : List zV) (M : zM) : zEv ph d 66 152 L st M = zcont ph d 66 (zstep ph (zEm ph d) 2 153 0 [3] L st M) := zEv_step rfl
theorem e66_153 (ph : Bool) (d : Nat) (L st : List zV) (M : zM) : zEv ph d 66 153 L st M = zcont ph d 66 (zstep ph (zEm ph d) 85 154 0 [] L st M) := zEv_step rfl
theorem e66_154 (ph : Bool) (d : Nat) (L st : List zV) (M : zM) : zEv ph d 66 154 L st M = zcont ph d 66 (zstep ph (zEm ph d) 4 155 0 [0] L st M) := zEv_step rfl
theorem e66_155 (ph : Bool) (d : Nat) (L st : List zV) (M : zM) : zEv ph d 66 155 L st M = zcont ph d 66 (zstep ph (zEm ph d) 62 158 0 [20, 3, 4, 10, 40] L st M) := zEv_step rfl
theorem e66_158 (ph : Bool) (d : Nat) (L st : List zV) (M : zM) : zEv ph d 66 158 L st M = zcont ph d 66 (zstep ph (zEm ph d) 2 159 0 [3] L st M) := zEv_step rfl
theorem e66_159 (ph : Bool) (d : Nat) (L st : List zV) (M : zM) : zEv ph d 66 159 L st M = zcont ph d 66 (zstep ph (zEm ph d) 85 160 0 [] L st M) := zEv_step rfl
theorem e66_160 (ph : Bool) (d : Nat) (L st : List zV) (M : zM) : zEv ph d 66 160 L st M = zcont ph d 66 (zstep ph (zEm ph d) 70 163 131 [3, 1, 26] L st M) := zEv_step rfl
theorem e66_163 (ph : Bool) (d : Nat) (L st : List zV) (M : zM) : zEv ph d 66 163 L st M = zcont ph d 66 (zstep ph (zEm ph d) 80 164 0 [] L st M) := zEv_step rfl
theorem e66_164 (ph : Bool) (d : Nat) (L st : List zV) (M : zM) : zEv ph d 66 164 L st M = zcont ph d 66 (zstep ph (zEm ph d) 4 165 0 [2] L st M) := zEv_step rfl
theorem e66_165 (ph : Bool) (d : Nat) (L st : List zV) (M : zM) : zEv ph d 66 165 L st M = zcont ph d 66 (zstep ph (zEm ph d) 4 166 0 [0] L st M) := zEv_step rfl
theorem e66_166 (ph : Bool) (d : Nat) (L st : List zV) (M : zM) : zEv ph d 66 166 L st M = zcont ph d 66 (zstep ph (zEm ph d) 62 169 0 [20, 2, 3, 10, 40] L st M) := zEv_step rfl
theorem e66_169 (ph : Bool) (d : Nat) (L st : List zV) (M : zM) : zEv ph d 66 169 L st M = zcont ph d 66 (zstep ph (zEm ph d) 2 170 0 [3] L st M) := zEv_step rfl
theorem e66_170 (ph : Bool) (d : Nat) (L st : List zV) (M : zM) : zEv ph d 66 170 L st M = zcont ph d 66 (zstep ph (zEm ph d) 85 171 0 [] L st M) := zEv_step rfl
theorem e66_171 (ph : Bool) (d : Nat) (L st : List zV) (M : zM) : zEv ph d 66 171 L st M = zcont ph d 66 (zstep ph (zEm ph d) 70 174 132 [2, 1, 26] L st M) := zEv_step rfl
theorem e66_174 (ph : Bool) (d : Nat) (L st : List zV) (M : zM) : zEv ph d 66 174 L st M = zcont ph d 66 (zstep ph (zEm ph d) 80 175 0 [] L st M) := zEv_step rfl
theorem e66_175 (ph : Bool) (d : Nat) (L st : List zV) (M : zM) : zEv ph d 66 175 L st M = zcont ph d 66 (zstep ph (zEm ph d) 4 176 0 [1] L st M) := zEv_step rfl
theorem e66_176 (ph : Bool) (d : Nat) (L st : List zV) (M : zM) : zEv ph d 66 176 L st M = zcont ph d 66 (zstep ph (zEm ph d) 4 177 0 [2] L st M) := zEv_step rfl
theorem e66_177 (ph : Bool) (d : Nat) (L st : List zV) (M : zM) : zEv ph d 66 177 L st M = zcont ph d 66 (zstep ph (zEm ph d) 4 178 0 [0] L st M) := zEv_step rfl
theorem e66_178 (ph : Bool) (d : Nat) (L st : List zV) (M : zM) : zEv ph d 66 178 L st M = zcont ph d 66 (zstep ph (zEm ph d) 62 181 0 [20, 3, 4, 10, 40] L st M) := zEv_step rfl
theorem e66_181 (ph : Bool) (d : Nat) (L st : List zV) (M : zM) : zEv ph d 66 181 L st M = zcont ph d 66 (zstep ph (zEm ph d) 2 182 0 [3] L st M) := zEv_step rfl
theorem e66_182 (ph : Bool) (d : Nat) (L st : List zV) (M : zM) : zEv ph d 66 182 L st M = zcont ph d 66 (zstep ph (zEm ph d) 85 183 0 [] L st M) := zEv_step rfl
theorem e66_183 (ph : Bool) (d : Nat) (L st : List zV) (M : zM) : zEv ph d 66 183 L st M = zcont ph d 66 (zstep ph (zEm ph d) 70 186 67 [3, 1, -1] L st M) := zEv_step rfl
theorem e66_186 (ph : Bool) (d : Nat) (L st : List zV) (M : zM) : zEv ph d 66 186 L st M = zcont ph d 66 (zstep ph (zEm ph d) 80 187 0 [] L st M) := zEv_step rfl
theorem m67 (ph : Bool) (d : Nat) (p0 y0 p1 y1 p2 y2 : Int) (M : zM) : zEm ph (d + 1) 67 [(28, p0, y0), (26, p1, y1), (0, p2, y2)] M = zEv ph d 67 0 [(28, p0, y0), (26, p1, y1), (0, p2, y2), (3, 0, 0)] [] M := rfl
theorem e67_0 (ph : Bool) (d : Nat) (L st : List zV) (M : zM) : zEv ph d 67 0 L st M = zcont ph d 67 (zstep ph (zEm ph d) 0 3 0 [400] L st M) := zEv_step rfl
theorem e67_3 (ph : Bool) (d : Nat) (L st : List zV) (M : zM) : zEv ph d 67 3 L st M = zcont ph d 67 (zstep ph (zEm ph d) 4 4 0 [1] L st M) := zEv_step rfl
theorem e67_4 (ph : Bool) (d : Nat) (L st : List zV) (M : zM) : zEv ph d 67 4 L st M = zcont ph d 67 (zstep ph (zEm ph d) 60 7 0 [26, 10] L st M) := zEv_step rfl
theorem e67_7 (ph : Bool) (d : Nat) (L st : List zV) (M : zM) : zEv ph d 67 7 L st M = zcont ph d 67 (zstep ph (zEm ph d) 11 8 0 [] L st M) := zEv_step rfl
theorem e67_8 (ph : Bool) (d : Nat) (L st : List zV) (M : zM) : zEv ph d 67 8 L st M = zcont ph d 67 (zstep ph (zEm ph d) 2 9 0 [2] L st M) := zEv_step rfl
theorem e67_9 (ph : Bool) (d : Nat) (L st : List zV) (M : zM) : zEv ph d 67 9 L st M = zcont ph d 67 (zstep ph (zEm ph d) 49 12 14 [] L st M) := zEv_step rfl
theorem e67_12 (ph : Bool) (d : Nat) (L st : List zV) (M : zM) : zEv ph d 67 12 L st M = zcont ph d 67 (zstep ph (zEm ph d) 0 13 0 [1] L st M) := zEv_step rfl
theorem e67_13 (ph : Bool) (d : Nat) (L st : List zV) (M : zM) : zEv ph d 67 13 L st M = zcont ph d 67 (zstep ph (zEm ph d) 80 14 0 [] L st M) := zEv_step rfl
theorem e67_14 (ph : Bool) (d : Nat) (L st : List zV) (M : zM) : zEv ph d 67 14 L st M = zcont ph d 67 (zstep ph (zEm ph d) 0 15 0 [0] L st M) := zEv_step rfl
theorem e67_15 (ph : Bool) (d : Nat) (L st : List zV) (M : zM) : zEv ph d 67 15 L st M = zcont ph d 67 (zstep ph (zEm ph d) 5 16 0 [3] L st M) := zEv_step rfl
theorem e67_16 (ph : Bool) (d : Nat) (L st : List zV) (M : zM) : zEv ph d 67 16 L st M = zcont ph d 67 (zstep ph (zEm ph d) 2 17 0 [3] L st M) := zEv_step rfl
theorem e67_17 (ph : Bool) (d : Nat) (L st : List zV) (M : zM) : zEv ph d 67 17 L st M = zcont ph d 67 (zstep ph (zEm ph d) 2 18 0 [2] L st M) := zEv_step rfl
theorem e67_18 (ph : Bool) (d : Nat) (L st : List zV) (M : zM) : zEv ph d 67 18 L st M = zcont ph d 67 (zstep ph (zEm ph d) 49 21 33 [] L st M) := zEv_step rfl
theorem e67_21 (ph : Bool) (d : Nat) (L st : List zV) (M : zM) : zEv ph d 67 21 L st M = zcont ph d 67 (zstep ph (zEm ph d) 4 22 0 [1] L st M) := zEv_step rfl
theorem e67_22 (ph : Bool) (d : Nat) (L st : List zV) (M : zM) : zEv ph d 67 22 L st M = zcont ph d 67 (zstep ph (zEm ph d) 4 23 0 [0] L st M) := zEv_step rfl
theorem e67_23 (ph : Bool) (d : Nat) (L st : List zV) (M : zM) : zEv ph d 67 23 L st M = zcont ph d 67 (zstep ph (zEm ph d) 70 26 133 [2, 1, 26] L st M) := zEv_step rfl
theorem e67_26 (ph : Bool) (d : Nat) (L st : List zV) (M : zM) : zEv ph d 67 26 L st M = zcont ph d 67 (zstep ph (zEm ph d) 38 27 0 [] L st M) := zEv_step rfl
theorem e67_27 (ph : Bool) (d : Nat) (L st : List zV) (M : zM) : zEv ph d 67 27 L st M = zcont ph d 67 (zstep ph (zEm ph d) 8 30 0 [3, 1] L st M) := zEv_step rfl
theorem e67_30 (ph : Bool) (d : Nat) (L st : List zV) (M : zM) : zEv ph d 67 30 L st M = zcont ph d 67 (zstep ph (zEm ph d) 52 33 16 [] L st M) := zEv_step rfl
theorem e67_33 (ph : Bool) (d : Nat) (L st : List zV) (M : zM) : zEv ph d 67 33 L st M = zcont ph d 67 (zstep ph (zEm ph d) 0 34 0 [0] L st M) := zEv_step rfl
theorem e67_34 (ph : Bool) (d : Nat) (L st : List zV) (M : zM) : zEv ph d 67 34 L st M = zcont ph d 67 (zstep ph (zEm ph d) 80 35 0 [] L st M) := zEv_step rfl
theorem m282 (ph : Bool) (d : Nat) (a x0 p0 y0 : Int) (M : zM) : zEm ph (d + 1) 282 [(30, a, x0), (0, p0, y0)] M = zEv ph d 282 0 [(30, a, x0), (0, p0, y0), (3, 0, 0), (3, 0, 0)] [] M := rfl
theorem e282_0 (ph : Bool) (d : Nat) (L st : List zV) (M : zM) : zEv ph d 282 0 L st M = zcont ph d 282 (zstep ph (zEm ph d) 4 1 0 [0] L st M) := zEv_step rfl
theorem e282_1 (ph : Bool) (d : Nat) (L st : List zV) (M : zM) : zEv ph d 282 1 L st M = zcont ph d 282 (zstep ph (zEm ph d) 62 4 0 [30, 41, 19, 10, 160] L st M) := zEv_step rfl
theorem e282_4 (ph : Bool) (d : Nat) (L st : List zV) (M : zM) : zEv ph d 282 4 L st M = zcont ph d 282 (zstep ph (zEm ph d) 2 5 0 [1] L st M) := zEv_step rfl
theorem e282_5 (ph : Bool) (d : Nat) (L st : List zV) (M : zM) : zEv ph d 282 5 L st M = zcont ph d 282 (zstep ph (zEm ph d) 0 6 0 [1] L st M) := zEv_step rfl
theorem e282_6 (ph : Bool) (d : Nat) (L st : List zV) (M : zM) : zEv ph d 282 6 L st M = zcont ph d 282 (zstep ph (zEm ph d) 10 7 0 [] L st M) := zEv_step rfl
theorem e282_7 (ph : Bool) (d : Nat) (L st : List zV) (M : zM) : zEv ph d 282 7 L st M = zcont ph d 282 (zstep ph (zEm ph d) 85 8 0 [] L st M) := zEv_step rfl
theorem e282_8 (ph : Bool) (d : Nat) (L st : List zV) (M : zM) : zEv ph d 282 8 L st M = zcont ph d 282 (zstep ph (zEm ph d) 5 9 0 [2] L st M) := zEv_step rfl
theorem e282_9 (ph : Bool) (d : Nat) (L st : List zV) (M : zM) : zEv ph d 282 9 L st M = zcont ph d 282 (zstep ph (zEm ph d) 4 10 0 [0] L st M) := zEv_step rfl
theorem e282_10 (ph : Bool) (d : Nat) (L st : List zV) (M : zM) : zEv ph d 282 10 L st M = zcont ph d 282 (zstep ph (zEm ph d) 62 13 0 [30, 41, 19, 10, 160] L st M) := zEv_step rfl
theorem e282_13 (ph : Bool) (d : Nat) (L st : List zV) (M : zM) : zEv ph d 282 13 L st M = zcont ph d 282 (zstep ph (zEm ph d) 2 14 0 [1] L st M) := zEv_step rfl
theorem e282_14 (ph : Bool) (d : Nat) (L st : List zV) (M : zM) : zEv ph d 282 14 L st M = zcont ph d 282 (zstep ph (zEm ph d) 85 15 0 [] L st M) := zEv_step rfl
theorem e282_15 (ph : Bool) (d : Nat) (L st : List zV) (M : zM) : zEv ph d 282 15 L st M = zcont ph d 282 (zstep ph (zEm ph d) 0 17 0 [7] L st M) := zEv_step rfl
theorem e282_17 (ph : Bool) (d : Nat) (L st : List zV) (M : zM) : zEv ph d 282 17 L st M = zcont ph d 282 (zstep ph (zEm ph d) 47 20 46 [] L st M) := zEv_step rfl
theorem e282_20 (ph : Bool) (d : Nat) (L st : List zV) (M : zM) : zEv ph d 282 20 L st M = zcont ph d 282 (zstep ph (zEm ph d) 4 21 0 [0] L st M) := zEv_step rfl
theorem e282_21 (ph : Bool) (d : Nat) (L st : List zV) (M : zM) : zEv ph d 282 21 L st M = zcont ph d 282 (zstep ph (zEm ph d) 62 24 0 [30, 14, 2, 10, 368] L st M) := zEv_step rfl
theorem e282_24 (ph : Bool) (d : Nat) (L st : List zV) (M : zM) : zEv ph d 282 24 L st M = zcont ph d 282 (zstep ph (zEm ph d) 0 26 0 [75] L st M) := zEv_step rfl
theorem e282_26 (ph : Bool) (d : Nat) (L st : List zV) (M : zM) : zEv ph d 282 26 L st M = zcont ph d 282 (zstep ph (zEm ph d) 85 27 0 [] L st M) := zEv_step rfl
theorem e282_27 (ph : Bool) (d : Nat) (L st : List zV) (M : zM) : zEv ph d 282 27 L st M = zcont ph d 282 (zstep ph (zEm ph d) 2 28 0 [2] L st M) := zEv_step rfl
theorem e282_28 (ph : Bool) (d : Nat) (L st : List zV) (M : zM) : zEv ph d 282 28 L st M = zcont ph d 282 (zstep ph (zEm ph d) 10 29 0 [] L st M) := zEv_step rfl
theorem e282_29 (ph : Bool) (d : Nat) (L st : List zV) (M : zM) : zEv ph d 282 29 L st M = zcont ph d 282 (zstep ph (zEm ph d) 0 32 0 [400] L st M) := zEv_step rfl
theorem e282_32 (ph : Bool) (d : Nat) (L st : List zV) (M : zM) : zEv ph d 282 32 L st M = zcont ph d 282 (zstep ph (zEm ph d) 51 35 38 [] L st M) := zEv_step rfl
theorem e282_35 (ph : Bool) (d : Nat) (L st : List zV) (M : zM) : zEv ph d 282 35 L st M = zcont ph d 282 (zstep ph (zEm ph d) 0 37 0 [71] L st M) := zEv_step rfl
theorem e282_37 (ph : Bool) (d : Nat) (L st : List zV) (M : zM) : zEv ph d 282 37 L st M = zcont ph d 282 (zstep ph (zEm ph d) 80 38 0 [] L st M) := zEv_step rfl
theorem e282_38 (ph : Bool) (d : Nat) (L st : List zV) (M : zM) : zEv ph d 282 38 L st M = zcont ph d 282 (zstep ph (zEm ph d) 4 39 0 [0] L st M) := zEv_step rfl
theorem e282_39 (ph : Bool) (d : Nat) (L st : List zV) (M : zM) : zEv ph d 282 39 L st M = zcont ph d 282 (zstep ph (zEm ph d) 2 40 0 [2] L st M) := zEv_step rfl
theorem e282_40 (ph : Bool) (d : Nat) (L st : List zV) (M : zM) : zEv ph d 282 40 L st M = zcont ph d 282 (zstep ph (zEm ph d) 70 43 241 [2, 1, 30] L st M) := zEv_step rfl
theorem e282_43 (ph : Bool) (d : Nat) (L st : List zV) (M : zM) : zEv ph d 282 43 L st M = zcont ph d 282 (zstep ph (zEm ph d) 38 44 0 [] L st M) := zEv_step rfl
theorem e282_44 (ph : Bool) (d : Nat) (L st : List zV) (M : zM) : zEv ph d 282 44 L st M = zcont ph d 282 (zstep ph (zEm ph d) 0 45 0 [0] L st M) := zEv_step rfl
theorem e282_45 (ph : Bool) (d : Nat) (L st : List zV) (M : zM) : zEv ph d 282 45 L st M = zcont ph d 282 (zstep ph (zEm ph d) 80 46 0 [] L st M) := zEv_step rfl
theorem e282_46 (ph : Bool) (d : Nat) (L st : List zV) (M : zM) : zEv ph d 282 46 L st M = zcont ph d 282 (zstep ph (zEm ph d) 4 47 0 [0] L st M) := zEv_step rfl
theorem e282_47 (ph : Bool) (d : Nat) (L st : List zV) (M : zM) : zEv ph d 282 47 L st M = zcont ph d 282 (zstep ph (zEm ph d) 4 48 0 [0] L st M) := zEv_step rfl
theorem e282_48 (ph : Bool) (d : Nat) (L st : List zV) (M : zM) : zEv ph d 282 48 L st M = zcont ph d 282 (zstep ph (zEm ph d) 62 51 0 [30, 41, 19, 10, 160] L st M) := zEv_step rfl
theorem e282_51 (ph : Bool) (d : Nat) (L st : List zV) (M : zM) : zEv ph d 282 51 L st M = zcont ph d 282 (zstep ph (zEm ph d) 2 52 0 [1] L st M) := zEv_step rfl
theorem e282_52 (ph : Bool) (d : Nat) (L st : List zV) (M : zM) : zEv ph d 282 52 L st M = zcont ph d 282 (zstep ph (zEm ph d) 85 53 0 [] L st M) := zEv_step rfl
theorem e282_53 (ph : Bool) (d : Nat) (L st : List zV) (M : zM) : zEv ph d 282 53 L st M = zcont ph d 282 (zstep ph (zEm ph d) 2 54 0 [2] L st M) := zEv_step rfl
theorem e282_54 (ph : Bool) (d : Nat) (L st : List zV) (M : zM) : zEv ph d 282 54 L st M = zcont ph d 282 (zstep ph (zEm ph d) 4 55 0 [0] L st M) := zEv_step rfl
theorem e282_55 (ph : Bool) (d : Nat) (L st : List zV) (M : zM) : zEv ph d 282 55 L st M = zcont ph d 282 (zstep ph (zEm ph d) 62 58 0 [30, 41, 19, 10, 160] L st M) := zEv_step rfl
theorem e282_58 (ph : Bool) (d : Nat) (L st : List zV) (M : zM) : zEv ph d 282 58 L st M = zcont ph d 282 (zstep ph (zEm ph d) 2 59 0 [1] L st M) := zEv_step rfl
theorem e282_59 (ph : Bool) (d : Nat) (L st : List zV) (M : zM) : zEv ph d 282 59 L st M = zcont ph d 282 (zstep ph (zEm ph d) 0 60 0 [2] L st M) := zEv_step rfl
theorem e282_60 (ph : Bool) (d : Nat) (L st : List zV) (M : zM) : zEv ph d 282 60 L st M = zcont ph d 282 (zstep ph (zEm ph d) 10 61 0 [] L st M) := zEv_step rfl
theorem e282_61 (ph : Bool) (d : Nat) (L st : List zV) (M : zM) : zEv ph d 282 61 L st M = zcont ph d 282 (zstep ph (zEm ph d) 85 62 0 [] L st M) := zEv_step rfl
theorem e282_62 (ph : Bool) (d : Nat) (L st : List zV) (M : zM) : zEv ph d 282 62 L st M = zcont ph d 282 (zstep ph (zEm ph d) 4 63 0 [0] L st M) := zEv_step rfl
theorem e282_63 (ph : Bool) (d : Nat) (L st : List zV) (M : zM) : zEv ph d 282 63 L st M = zcont ph d 282 (zstep ph (zEm ph d) 62 66 0 [30, 41, 19, 10, 160] L st M) := zEv_step rfl
theorem e282_66 (ph : Bool) (d : Nat) (L st : List zV) (M : zM) : zEv ph d 282 66 L st M = zcont ph d 282 (zstep ph (zEm ph d) 2 67 0 [1] L st M) := zEv_step rfl
theorem e282_67 (ph : Bool) (d : Nat) (L st : List zV) (M : zM) : zEv ph d 282 67 L st M = zcont ph d 282 (zstep ph (zEm ph d) 0 68 0 [3] L st M) := zEv_step rfl
theorem e282_68 (ph : Bool) (d : Nat) (L st : List zV) (M : zM) : zEv ph d 282 68 L st M = zcont ph d 282 (zstep ph (zEm ph d) 10 69 0 [] L st M) := zEv_step rfl
theorem e282_69 (ph : Bool) (d : Nat) (L st : List zV) (M : zM) : zEv ph d 282 69 L st M = zcont ph d 282 (zstep ph (zEm ph d) 85 70 0 [] L st M) := zEv_step rfl
theorem e282_70 (ph : Bool) (d : Nat) (L st : List zV) (M : zM) : zEv ph d 282 70 L st M = zcont ph d 282 (zstep ph (zEm ph d) 70 73 226 [5, 1, 30] L st M) := zEv_step rfl
theorem e282_73 (ph : Bool) (d : Nat) (L st : List zV) (M : zM) : zEv ph d 282 73 L st M = zcont ph d 282 (zstep ph (zEm ph d) 5 74 0 [3] L st M) := zEv_step rfl
theorem e282_74 (ph : Bool) (d : Nat) (L st : List zV) (M : zM) : zEv ph d 282 74 L st M = zcont ph d 282 (zstep ph (zEm ph d) 2 75 0 [3] L st M) := zEv_step rfl
theorem e282_75 (ph : Bool) (d : Nat) (L st : List zV) (M : zM) : zEv ph d 282 75 L st M = zcont ph d 282 (zstep ph (zEm ph d) 40 78 90 [] L st M) := zEv_step rfl
theorem e282_78 (ph : Bool) (d : Nat) (L st : List zV) (M : zM) : zEv ph d 282 78 L st M = zcont ph d 282 (zstep ph (zEm ph d) 0 80 0 [10] L st M) := zEv_step rfl
theorem e282_80 (ph : Bool) (d : Nat) (L st : List zV) (M : zM) : zEv ph d 282 80 L st M = zcont ph d 282 (zstep ph (zEm ph d) 4 81 0 [0] L st M) := zEv_step rfl
theorem e282_81 (ph : Bool) (d : Nat) (L st : List zV) (M : zM) : zEv ph d 282 81 L st M = zcont ph d 282 (zstep ph (zEm ph d) 62 84 0 [30, 41, 19, 10, 160] L st M) := zEv_step rfl
theorem e282_84 (ph : Bool) (d : Nat) (L st : List zV) (M : zM) : zEv ph d 282 84 L st M = zcont ph d 282 (zstep ph (zEm ph d) 2 85 0 [1] L st M) := zEv_step rfl
theorem e282_85 (ph : Bool) (d : Nat) (L st : List zV) (M : zM) : zEv ph d 282 85 L st M = zcont ph d 282 (zstep ph (zEm ph d) 85 86 0 [] L st M) := zEv_step rfl
theorem e282_86 (ph : Bool) (d : Nat) (L st : List zV) (M : zM) : zEv ph d 282 86 L st M = zcont ph d 282 (zstep ph (zEm ph d) 12 87 0 [] L st M) := zEv_step rfl
theorem e282_87 (ph : Bool) (d : Nat) (L st : List zV) (M : zM) : zEv ph d 282 87 L st M = zcont ph d 282 (zstep ph (zEm ph d) 2 88 0 [3] L st M) := zEv_step rfl
theorem e282_88 (ph : Bool) (d : Nat) (L st : List zV) (M : zM) : zEv ph d 282 88 L st M = zcont ph d 282 (zstep ph (zEm ph d) 10 89 0 [] L st M) := zEv_step rfl
theorem e282_89 (ph : Bool) (d : Nat) (L st : List zV) (M : zM) : zEv ph d 282 89 L st M = zcont ph d 282 (zstep ph (zEm ph d) 80 90 0 [] L st M) := zEv_step rfl
theorem e282_90 (ph : Bool) (d : Nat) (L st : List zV) (M : zM) : zEv ph d 282 90 L st M = zcont ph d 282 (zstep ph (zEm ph d) 4 91 0 [0] L st M) := zEv_step rfl
theorem e282_91 (ph : Bool) (d : Nat) (L st : List zV) (M : zM) : zEv ph d 282 91 L st M = zcont ph d 282 (zstep ph (zEm ph d) 4 92 0 [0] L st M) := zEv_step rfl
theorem e282_92 (ph : Bool) (d : Nat) (L st : List zV) (M : zM) : zEv ph d 282 92 L st M = zcont ph d 282 (zstep ph (zEm ph d) 62 95 0 [30, 41, 19, 10, 160] L st M) := zEv_step rfl
theorem e282_95 (ph : Bool) (d : Nat) (L st : List zV) (M : zM) : zEv ph d 282 95 L st M = zcont ph d 282 (zstep ph (zEm ph d) 2 96 0 [1] L st M) := zEv_step rfl
theorem e282_96 (ph : Bool) (d : Nat) (L st : List zV) (M : zM) : zEv ph d 282 96 L st M = zcont ph d 282 (zstep ph (zEm ph d) 85 97 0 [] L st M) := zEv_step rfl
theorem e282_97 (ph : Bool) (d : Nat) (L st : List zV) (M : zM) : zEv ph d 282 97 L st M = zcont ph d 282 (zstep ph (zEm ph d) 2 98 0 [2] L st M) := zEv_step rfl
theorem e282_98 (ph : Bool) (d : Nat) (L st : List zV) (M : zM) : zEv ph d 282 98 L st M = zcont ph d 282 (zstep ph (zEm ph d) 4 99 0 [0] L st M) := zEv_step rfl
theorem e282_99 (ph : Bool) (d : Nat) (L st : List zV) (M : zM) : zEv ph d 282 99 L st M = zcont ph d 282 (zstep ph (zEm ph d) 62 102 0 [30, 41, 19, 10, 160] L st M) := zEv_step rfl
theorem e282_102 (ph : Bool) (d : Nat) (L st : List zV) (M : zM) : zEv ph d 282 102 L st M = zcont ph d 282 (zstep ph (zEm ph d) 2 103 0 [1] L st M) := zEv_step rfl
theorem e282_103 (ph : Bool) (d : Nat) (L st : List zV) (M : zM) : zEv ph d 282 103 L st M = zcont ph d 282 (zstep ph (zEm ph d) 0 104 0 [2] L st M) := zEv_step rfl
theorem e282_104 (ph : Bool) (d : Nat) (L st : List zV) (M : zM) : zEv ph d 282 104 L st M = zcont ph d 282 (zstep ph (zEm ph d) 10 105 0 [] L st M) := zEv_step rfl
theorem e282_105 (ph : Bool) (d : Nat) (L st : List zV) (M : zM) : zEv ph d 282 105 L st M = zcont ph d 282 (zstep ph (zEm ph d) 85 106 0 [] L st M) := zEv_step rfl
theorem e282_106 (ph : Bool) (d : Nat) (L st : List zV) (M : zM) : zEv ph d 282 106 L st M = zcont ph d 282 (zstep ph (zEm ph d) 4 107 0 [0] L st M) := zEv_step rfl
theorem e282_107 (ph : Bool) (d : Nat) (L st : List zV) (M : zM) : zEv ph d 282 107 L st M = zcont ph d 282 (zstep ph (zEm ph d) 62 110 0 [30, 41, 19, 10, 160] L st M) := zEv_step rfl
theorem e282_110 (ph : Bool) (d : Nat) (L st : List zV) (M : zM) : zEv ph d 282 110 L st M = zcont ph d 282 (zstep ph (zEm ph d) 2 111 0 [1] L st M) := zEv_step rfl
theorem e282_111 (ph : Bool) (d : Nat) (L st : List zV) (M : zM) : zEv ph d 282 111 L st M = zcont ph d 282 (zstep ph (zEm ph d) 0 112 0 [3] L st M) := zEv_step rfl
theorem e282_112 (ph : Bool) (d : Nat) (L st : List zV) (M : zM) : zEv ph d 282 112 L st M = zcont ph d 282 (zstep ph (zEm ph d) 10 113 0 [] L st M) := zEv_step rfl
theorem e282_113 (ph : Bool) (d : Nat) (L st : List zV) (M : zM) : zEv ph d 282 113 L st M = zcont ph d 282 (zstep ph (zEm ph d) 85 114 0 [] L st M) := zEv_step rfl
theorem e282_114 (ph : Bool) (d : Nat) (L st : List zV) (M : zM) : zEv ph d 282 114 L st M = zcont ph d 282 (zstep ph (zEm ph d) 70 117 230 [5, 0, 30] L st M) := zEv_step rfl
theorem e282_117 (ph : Bool) (d : Nat) (L st : List zV) (M : zM) : zEv ph d 282 117 L st M = zcont ph d 282 (zstep ph (zEm ph d) 0 118 0 [0] L st M) := zEv_step rfl
theorem e282_118 (ph : Bool) (d : Nat) (L st : List zV) (M : zM) : zEv ph d 282 118 L st M = zcont ph d 282 (zstep ph (zEm ph d) 80 119 0 [] L st M) := zEv_step rfl
theorem s_passL (d : Nat) (a y1 y2 n y : Int) (N : zM) (ha : 37 ≤ a) (hG : okG (zvG N 30)) (n1 : n ≤ 60) : ∀ (m : Nat) (i : Int) (T : zM), okD T (zvG N 30) → 0 ≤ i → i + m = n → T 0 10 + m ≤ 400 → zEv true (d + 2) 67 16 [(28, 30, y1), (26, a, y2), (0, n, y), (0, i, 0)] [] (zput N a T) = some ((0, 0, 0), zput N a (tDays (zvG N 30) m T))
  | 0, i, T, hT, i0, h1, h2 => by
    show _ = some ((0, 0, 0), zput N a T)
    rw [e67_16]
    simp (disch := first | assumption | exact zrm0 | exact zrm1 _ | exact zrm2 _ _ | exact zrm3 _ _ _ | exact zrm4 _ _ _ _ | omega) only [m67, ↓k_dp, ↓k_dn, k_dp, k_dn, k_dT, k_dF, k_ip, k_in, if_true, if_false, ne_eq, not_true_eq_false, not_false_eq_true, Int.reduceAdd, zup_a, zup_e, zup_j, z32_id, k_ic, k_al1, k_gI, k_isub, k_il2, k_icge, k_ri, k_is3, k_il3, k_al0, k_v2r, k_pop, k_inc3, k_goto, zb0_some, zb1_some, e67_0, e67_3, e67_4, e67_7, e67_8, e67_9, e67_12, e67_13, e67_14, e67_15, e67_17, e67_18, e67_21, e67_22, e67_23, e67_26, e67_27, e67_30, e67_33, e67_34]
  | m + 1, i, T, hT, i0, h1, h2 => by
    have hd : T 0 10 < 400 := by omega
    have hz : zt T = T := hT.1
    have hs := s_passDay d a y2 30 y1 (zput N a T) (by omega) (by omega) (by rw [zvG_puto (by omega)]; exact hG)
    rw [zvS_put, hz, zvG_puto (by omega), zput_put, if_neg (by omega), if_neg (by omega)] at hs
    have hday := hT.2.1.2.2.1
    have hday2 := tDay2_day (G := zvG N 30) hday.1 hd
    have ih := s_passL d a y1 y2 n y N ha hG n1 m (i + 1) (tDay2 T (zvG N 30)) (okD_day hG hT hd) (by omega) (by omega) (by omega)
    rw [tDays_succ, ← ih, e67_16]
    simp (disch := first | assumption | exact zrm0 | exact zrm1 _ | exact zrm2 _ _ | exact zrm3 _ _ _ | exact zrm4 _ _ _ _ | omega) only [m67, ↓k_dp, ↓k_dn, k_dp, k_dn, k_dT, k_dF, k_ip, k_in, if_true, if_false, ne_eq, not_true_eq_false, not_false_eq_true, Int.reduceAdd, zup_a, zup_e, zup_j, z32_id, k_ic, k_al1, k_gI, k_isub, k_il2, k_icge, k_ri, k_is3, k_il3, k_al0, k_v2r, k_pop, k_inc3, k_goto, zb0_some, zb1_some, e67_0, e67_3, e67_4, e67_7, e67_8, e67_9, e67_12, e67_13, e67_14, e67_15, e67_17, e67_18, e67_21, e67_22, e67_23, e67_26, e67_27, e67_30, e67_33, e67_34, hs]
theorem s_passD (d : Nat) (a y1 y2 n y : Int) (N T : zM) (ha : 37 ≤ a) (hG : okG (zvG N 30)) (hT : okD T (zvG N 30)) (n0 : 0 ≤ n) (n1 : n ≤ 60) : zEm true (d + 3) 67 [(28, 30, y1), (26, a, y2), (0, n, y)] (zput N a T) = some ((0, if 400 - T 0 10 < n then 1 else 0, 0), zput N a (if 400 - T 0 10 < n then T else tDays (zvG N 30) n.toNat T)) := by
  have hday := hT.2.1.2.2.1
  have e10 : zput N a T a 10 = T 0 10 := zput_0 (by omega) (by omega)
  by_cases c : 400 - T 0 10 < n
  · rw [if_pos c, if_pos c]
    simp (disch := first | assumption | exact zrm0 | exact zrm1 _ | exact zrm2 _ _ | exact zrm3 _ _ _ | exact zrm4 _ _ _ _ | omega) only [m67, ↓k_dp, ↓k_dn, k_dp, k_dn, k_dT, k_dF, k_ip, k_in, if_true, if_false, ne_eq, not_true_eq_false, not_false_eq_true, Int.reduceAdd, zup_a, zup_e, zup_j, z32_id, k_ic, k_al1, k_gI, k_isub, k_il2, k_icge, k_ri, k_is3, k_il3, k_al0, k_v2r, k_pop, k_inc3, k_goto, zb0_some, zb1_some, e67_0, e67_3, e67_4, e67_7, e67_8, e67_9, e67_12, e67_13, e67_14, e67_15, e67_16, e67_17, e67_18, e67_21, e67_22, e67_23, e67_26, e67_27, e67_30, e67_33, e67_34, e10]
  · rw [if_neg c, if_neg c, ← s_passL d a y1 y2 n y N ha hG n1 n.toNat 0 T hT (by omega) (by omega) (by omega)]
    simp (disch := first | assumption | exact zrm0 | exact zrm1 _ | exact zrm2 _ _ | exact zrm3 _ _ _ | exact zrm4 _ _ _ _ | omega) only [m67, ↓k_dp, ↓k_dn, k_dp, k_dn, k_dT, k_dF, k_ip, k_in, if_true, if_false, ne_eq, not_true_eq_false, not_false_eq_true, Int.reduceAdd, zup_a, zup_e, zup_j, z32_id, k_ic, k_al1, k_gI, k_isub, k_il2, k_icge, k_ri, k_is3, k_il3, k_al0, k_v2r, k_pop, k_inc3, k_goto, zb0_some, zb1_some, e67_0, e67_3, e67_4, e67_7, e67_8, e67_9, e67_12, e67_13, e67_14, e67_15, e67_17, e67_18, e67_21, e67_22, e67_23, e67_26, e67_27, e67_30, e67_33, e67_34, e10]
theorem s_live (d : Nat) (a y0 y1 y2 y j K wt why : Int) (N N' : zM) (h4 : N 25 4 = K) (h4' : N' 26 j = wt) (j0 : 0 ≤ j) (j1 : j < K) (k1 : K ≤ 40) (w0 : 0 ≤ wt) (w1 : wt ≤ 70) (v0 : 0 ≤ why) (v1 : why ≤ 3) (ht : zEm true d 66 [(20, 25, y0), (28, 30, y1), (26, a, y2), (0, j, 0)] N = some ((0, why, 0), N')) : zEm true (d + 1) 65 [(20, 25, y0), (28, 30, y1), (26, a, y2), (0, j, y)] N = some ((0, if why = 0 then 0 else wt + why, 0), N') := by
  by_cases c : why = 0
  · rw [if_pos c]
    simp (disch := first | assumption | exact zrm0 | exact zrm1 _ | exact zrm2 _ _ | exact zrm3 _ _ _ | exact zrm4 _ _ _ _ | omega) only [m65, ↓k_dp, ↓k_dn, k_dp, k_dn, k_dT, k_dF, k_ip, k_in, if_true, if_false, ne_eq, not_true_eq_false, not_false_eq_true, Int.reduceAdd, zup_a, zup_e, zup_j, z32_id, k_il3, k_iflt, k_al0, k_gI, k_iclt, k_ic, k_ri, k_al1, k_al2, k_v4r, k_is4, k_il4, k_ifne, k_goto, k_gR, k_ild, k_ildS, k_ildW, k_iadd, zb0_some, zb1_some, e65_0, e65_1, e65_4, e65_5, e65_6, e65_9, e65_12, e65_13, e65_14, e65_15, e65_16, e65_17, e65_18, e65_21, e65_23, e65_25, e65_28, e65_29, e65_32, e65_33, e65_36, e65_37, e65_38, e65_40, e65_41, h4, ht]
  · rw [if_neg c]
    simp (disch := first | assumption | exact zrm0 | exact zrm1 _ | exact zrm2 _ _ | exact zrm3 _ _ _ | exact zrm4 _ _ _ _ | omega) only [m65, ↓k_dp, ↓k_dn, k_dp, k_dn, k_dT, k_dF, k_ip, k_in, if_true, if_false, ne_eq, not_true_eq_false, not_false_eq_true, Int.reduceAdd, zup_a, zup_e, zup_j, z32_id, k_il3, k_iflt, k_al0, k_gI, k_iclt, k_ic, k_ri, k_al1, k_al2, k_v4r, k_is4, k_il4, k_ifne, k_goto, k_gR, k_ild, k_ildS, k_ildW, k_iadd, zb0_some, zb1_some, e65_0, e65_1, e65_4, e65_5, e65_6, e65_9, e65_12, e65_13, e65_14, e65_15, e65_16, e65_17, e65_18, e65_21, e65_23, e65_25, e65_28, e65_29, e65_32, e65_33, e65_36, e65_37, e65_38, e65_40, e65_41, h4, ht, h4']
theorem rm_rm {B T U : zM} {sd f sd' f' : Int} : rm (rm B sd f T) sd' f' U = rm B sd' f' U := by
  show zpR (zup (zup (rm B sd f T) 197 40 sd') 199 78 f') U = _
  rw [rm_sd, rm_fl, rm_put]
/-- what a line does -/
noncomputable def bWhy (T G : zM) (w h q n : Int) : Int := if w = 0 then sWhyBuy T G h n else if w = 10 then (if zbit (T 0 8) h ≠ 0 then 1 else 0) else if w = 20 then (if zbit (T 0 8) h ≠ 0 then 0 else 1) else if w = 30 then sWhySway T h q n else if w = 40 then sWhyPut T G q else if w = 50 then (if T 8 q = n then 1 else 0) else if w = 60 then (if T 0 9 = q then 1 else 0) else if 400 - T 0 10 < n then 1 else 0
noncomputable def bNew (T G : zM) (w h q n : Int) : zM := if w = 0 then tBuy T G h n else if w = 10 then zup T 0 8 (zor (T 0 8) (zshl 1 h)) else if w = 20 then zup T 0 8 (zand (T 0 8) (zxor (zshl 1 h) (-1))) else if w = 30 then tSway T h q n else if w = 40 then tPut T G q else if w = 50 then zup T 8 q n else if w = 60 then zup T 0 9 q else tDays G n.toNat T
noncomputable def bT (T G : zM) (w h q n : Int) : zM := if bWhy T G w h q n = 0 then bNew T G w h q n else T
def bLn (H Q w h q n : Int) : Prop := (w = 0 ∧ 0 ≤ h ∧ h < H ∧ 1 ≤ n ∧ n ≤ 20) ∨ (w = 10 ∧ 0 ≤ h ∧ h < H) ∨ (w = 20 ∧ 0 ≤ h ∧ h < H) ∨ (w = 30 ∧ 0 ≤ h ∧ h < H ∧ 0 ≤ q ∧ q < Q ∧ 0 ≤ n ∧ n ≤ 1) ∨ (w = 40 ∧ 0 ≤ q ∧ q < Q) ∨ (w = 50 ∧ 0 ≤ q ∧ q ≤ 1 ∧ 0 ≤ n ∧ n ≤ 20) ∨ (w = 60 ∧ 0 ≤ q ∧ q ≤ 2) ∨ (w = 70 ∧ 1 ≤ n ∧ n ≤ 60)
theorem bLn_of {H Q w h q n t x y z : Int} (hb : bkL H Q w h q n t x y z) : bLn H Q w h q n := by
  obtain ⟨hw, hb⟩ := hb
  unfold bLn
  rcases hb with ⟨rfl, -, -, h0, h1, h2, h3⟩ | ⟨rfl | rfl, -, h0, h1⟩ | ⟨rfl, -, -, -, h0, h1, h2, h3, h4, h5⟩ | ⟨rfl, -, h0, h1⟩ | ⟨rfl, -, -, h0, h1, h2, h3⟩ | ⟨rfl, -, h0, h1⟩ | ⟨rfl, -, h0, h1⟩
  · exact Or.inl ⟨by omega, h0, h1, h2, h3⟩
  · exact Or.inr (Or.inl ⟨by omega, h0, h1⟩)
  · exact Or.inr (Or.inr (Or.inl ⟨by omega, h0, h1⟩))
  · exact Or.inr (Or.inr (Or.inr (Or.inl ⟨by omega, h0, h1, h2, h3, h4, h5⟩)))
  · exact Or.inr (Or.inr (Or.inr (Or.inr (Or.inl ⟨by omega, h0, h1⟩))))
  · exact Or.inr (Or.inr (Or.inr (Or.inr (Or.inr (Or.inl ⟨by omega, h0, h1, h2, h3⟩)))))
  · exact Or.inr (Or.inr (Or.inr (Or.inr (Or.inr (Or.inr (Or.inl ⟨by omega, h0, h1⟩))))))
  · exact Or.inr (Or.inr (Or.inr (Or.inr (Or.inr (Or.inr (Or.inr ⟨by omega, h0, h1⟩))))))
theorem bWhy_bd {T G : zM} {w h q n : Int} : 0 ≤ bWhy T G w h q n ∧ bWhy T G w h q n ≤ 3 := by
  unfold bWhy sWhyBuy sWhySway sWhyPut
  repeat' split
  all_goals omega
/-- the class's line -/
theorem c_try (d : Nat) (a y0 y1 y2 j w h q n : Int) (N T : zM) (ha : 37 ≤ a) (hG : okG (zvG N 30)) (hT : okD T (zvG N 30)) (j0 : 0 ≤ j) (j1 : j < 40) (ew : N 26 j = w) (eh : N 27 j = h) (eq : N 28 j = q) (en : N 29 j = n) (hb : bLn (zvG N 30 0 7) (zvG N 30 0 8) w h q n) : zEm true (d + 5) 66 [(20, 25, y0), (28, 30, y1), (26, a, y2), (0, j, 0)] (zput N a T) = some ((0, bWhy T (zvG N 30) w h q n, 0), zput N a (bT T (zvG N 30) w h q n)) := by
  obtain ⟨-, ⟨g1, g2⟩, ⟨g3, g4⟩, -⟩ := id hG
  have e26 : zput N a T 26 j = w := by rw [zput_o (by omega)]; exact ew
  have e27 : zput N a T 27 j = h := by rw [zput_o (by omega)]; exact eh
  have e28 : zput N a T 28 j = q := by rw [zput_o (by omega)]; exact eq
  have e29 : zput N a T 29 j = n := by rw [zput_o (by omega)]; exact en
  have hz : zt T = T := hT.1
  have eG : zvG (zput N a T) 30 = zvG N 30 := zvG_puto (by omega)
  clear ew eh eq en
  unfold bT
  rcases hb with ⟨rfl, h0, h1, h2, h3⟩ | ⟨rfl, h0, h1⟩ | ⟨rfl, h0, h1⟩ | ⟨rfl, h0, h1, h2, h3, h4, h5⟩ | ⟨rfl, h0, h1⟩ | ⟨rfl, h0, h1, h2, h3⟩ | ⟨rfl, h0, h1⟩ | ⟨rfl, h0, h1⟩
  · have e1 : bWhy T (zvG N 30) 0 h q n = sWhyBuy T (zvG N 30) h n := rfl
    have e2 : bNew T (zvG N 30) 0 h q n = tBuy T (zvG N 30) h n := rfl
    have hs := s_buyIrons (d + 3) a y2 30 y1 h 0 n 0 (zput N a T) (by omega) (by omega) h0 (by omega)
    rw [zvS_put, hz, eG, zput_put] at hs
    rw [e1, e2]
    by_cases c : sWhyBuy T (zvG N 30) h n = 0
    · rw [if_pos c] at hs ⊢
      simp (disch := first | assumption | exact zrm0 | exact zrm1 _ | exact zrm2 _ _ | exact zrm3 _ _ _ | exact zrm4 _ _ _ _ | omega) only [m66, ↓k_dp, ↓k_dn, k_dp, k_dn, k_dT, k_dF, k_ip, k_in, if_true, if_false, ne_eq, not_true_eq_false, not_false_eq_true, Int.reduceAdd, zup_a, zup_e, zup_j, z32_id, k_al0, k_gR, k_il3, k_ild, k_ildS, k_ildW, k_al2, k_al1, k_v4r, k_ri, k_v2r, k_v3r, k_s3r, zb0_some, zb1_some, e66_0, e66_1, e66_4, e66_5, e66_6, e66_72, e66_73, e66_74, e66_75, e66_78, e66_79, e66_80, e66_81, e66_84, e66_85, e66_86, e66_89, e66_90, e66_91, e66_92, e66_95, e66_96, e66_97, e66_100, e66_101, e66_102, e66_103, e66_106, e66_107, e66_108, e66_111, e66_112, e66_113, e66_114, e66_117, e66_118, e66_119, e66_120, e66_123, e66_124, e66_125, e66_126, e66_129, e66_130, e66_131, e66_134, e66_135, e66_136, e66_137, e66_138, e66_141, e66_142, e66_143, e66_146, e66_147, e66_148, e66_149, e66_152, e66_153, e66_154, e66_155, e66_158, e66_159, e66_160, e66_163, e66_164, e66_165, e66_166, e66_169, e66_170, e66_171, e66_174, e66_175, e66_176, e66_177, e66_178, e66_181, e66_182, e66_183, e66_186, e26, e27, e29, hs]
    · rw [if_neg c] at hs ⊢
      simp (disch := first | assumption | exact zrm0 | exact zrm1 _ | exact zrm2 _ _ | exact zrm3 _ _ _ | exact zrm4 _ _ _ _ | omega) only [m66, ↓k_dp, ↓k_dn, k_dp, k_dn, k_dT, k_dF, k_ip, k_in, if_true, if_false, ne_eq, not_true_eq_false, not_false_eq_true, Int.reduceAdd, zup_a, zup_e, zup_j, z32_id, k_al0, k_gR, k_il3, k_ild, k_ildS, k_ildW, k_al2, k_al1, k_v4r, k_ri, k_v2r, k_v3r, k_s3r, zb0_some, zb1_some, e66_0, e66_1, e66_4, e66_5, e66_6, e66_72, e66_73, e66_74, e66_75, e66_78, e66_79, e66_80, e66_81, e66_84, e66_85, e66_86, e66_89, e66_90, e66_91, e66_92, e66_95, e66_96, e66_97, e66_100, e66_101, e66_102, e66_103, e66_106, e66_107, e66_108, e66_111, e66_112, e66_113, e66_114, e66_117, e66_118, e66_119, e66_120, e66_123, e66_124, e66_125, e66_126, e66_129, e66_130, e66_131, e66_134, e66_135, e66_136, e66_137, e66_138, e66_141, e66_142, e66_143, e66_146, e66_147, e66_148, e66_149, e66_152, e66_153, e66_154, e66_155, e66_158, e66_159, e66_160, e66_163, e66_164, e66_165, e66_166, e66_169, e66_170, e66_171, e66_174, e66_175, e66_176, e66_177, e66_178, e66_181, e66_182, e66_183, e66_186, e26, e27, e29, hs]
  · have e1 : bWhy T (zvG N 30) 10 h q n = if zbit (T 0 8) h ≠ 0 then 1 else 0 := rfl
    have e2 : bNew T (zvG N 30) 10 h q n = zup T 0 8 (zor (T 0 8) (zshl 1 h)) := rfl
    have hs := s_goOnStrike (d + 2) a y2 h 0 (zput N a T) (by omega)
    rw [zvS_put, hz, zput_put] at hs
    rw [e1, e2]
    by_cases c : zbit (T 0 8) h ≠ 0
    · rw [if_pos c, if_pos c] at hs
      rw [if_pos c, if_neg (by omega)]
      simp (disch := first | assumption | exact zrm0 | exact zrm1 _ | exact zrm2 _ _ | exact zrm3 _ _ _ | exact zrm4 _ _ _ _ | omega) only [m66, ↓k_dp, ↓k_dn, k_dp, k_dn, k_dT, k_dF, k_ip, k_in, if_true, if_false, ne_eq, not_true_eq_false, not_false_eq_true, Int.reduceAdd, zup_a, zup_e, zup_j, z32_id, k_al0, k_gR, k_il3, k_ild, k_ildS, k_ildW, k_al2, k_al1, k_v4r, k_ri, k_v2r, k_v3r, k_s3r, zb0_some, zb1_some, e66_0, e66_1, e66_4, e66_5, e66_6, e66_72, e66_73, e66_74, e66_75, e66_78, e66_79, e66_80, e66_81, e66_84, e66_85, e66_86, e66_89, e66_90, e66_91, e66_92, e66_95, e66_96, e66_97, e66_100, e66_101, e66_102, e66_103, e66_106, e66_107, e66_108, e66_111, e66_112, e66_113, e66_114, e66_117, e66_118, e66_119, e66_120, e66_123, e66_124, e66_125, e66_126, e66_129, e66_130, e66_131, e66_134, e66_135, e66_136, e66_137, e66_138, e66_141, e66_142, e66_143, e66_146, e66_147, e66_148, e66_149, e66_152, e66_153, e66_154, e66_155, e66_158, e66_159, e66_160, e66_163, e66_164, e66_165, e66_166, e66_169, e66_170, e66_171, e66_174, e66_175, e66_176, e66_177, e66_178, e66_181, e66_182, e66_183, e66_186, e26, e27, hs]
    · rw [if_neg c, if_neg c] at hs
      rw [if_neg c, if_pos rfl]
      simp (disch := first | assumption | exact zrm0 | exact zrm1 _ | exact zrm2 _ _ | exact zrm3 _ _ _ | exact zrm4 _ _ _ _ | omega) only [m66, ↓k_dp, ↓k_dn, k_dp, k_dn, k_dT, k_dF, k_ip, k_in, if_true, if_false, ne_eq, not_true_eq_false, not_false_eq_true, Int.reduceAdd, zup_a, zup_e, zup_j, z32_id, k_al0, k_gR, k_il3, k_ild, k_ildS, k_ildW, k_al2, k_al1, k_v4r, k_ri, k_v2r, k_v3r, k_s3r, zb0_some, zb1_some, e66_0, e66_1, e66_4, e66_5, e66_6, e66_72, e66_73, e66_74, e66_75, e66_78, e66_79, e66_80, e66_81, e66_84, e66_85, e66_86, e66_89, e66_90, e66_91, e66_92, e66_95, e66_96, e66_97, e66_100, e66_101, e66_102, e66_103, e66_106, e66_107, e66_108, e66_111, e66_112, e66_113, e66_114, e66_117, e66_118, e66_119, e66_120, e66_123, e66_124, e66_125, e66_126, e66_129, e66_130, e66_131, e66_134, e66_135, e66_136, e66_137, e66_138, e66_141, e66_142, e66_143, e66_146, e66_147, e66_148, e66_149, e66_152, e66_153, e66_154, e66_155, e66_158, e66_159, e66_160, e66_163, e66_164, e66_165, e66_166, e66_169, e66_170, e66_171, e66_174, e66_175, e66_176, e66_177, e66_178, e66_181, e66_182, e66_183, e66_186, e26, e27, hs]
  · have e1 : bWhy T (zvG N 30) 20 h q n = if zbit (T 0 8) h ≠ 0 then 0 else 1 := rfl
    have e2 : bNew T (zvG N 30) 20 h q n = zup T 0 8 (zand (T 0 8) (zxor (zshl 1 h) (-1))) := rfl
    have hs := s_goToWork (d + 2) a y2 h 0 (zput N a T) (by omega)
    rw [zvS_put, hz, zput_put] at hs
    rw [e1, e2]
    by_cases c : zbit (T 0 8) h ≠ 0
    · rw [if_pos c, if_pos c] at hs
      rw [if_pos c, if_pos rfl]
      simp (disch := first | assumption | exact zrm0 | exact zrm1 _ | exact zrm2 _ _ | exact zrm3 _ _ _ | exact zrm4 _ _ _ _ | omega) only [m66, ↓k_dp, ↓k_dn, k_dp, k_dn, k_dT, k_dF, k_ip, k_in, if_true, if_false, ne_eq, not_true_eq_false, not_false_eq_true, Int.reduceAdd, zup_a, zup_e, zup_j, z32_id, k_al0, k_gR, k_il3, k_ild, k_ildS, k_ildW, k_al2, k_al1, k_v4r, k_ri, k_v2r, k_v3r, k_s3r, zb0_some, zb1_some, e66_0, e66_1, e66_4, e66_5, e66_6, e66_72, e66_73, e66_74, e66_75, e66_78, e66_79, e66_80, e66_81, e66_84, e66_85, e66_86, e66_89, e66_90, e66_91, e66_92, e66_95, e66_96, e66_97, e66_100, e66_101, e66_102, e66_103, e66_106, e66_107, e66_108, e66_111, e66_112, e66_113, e66_114, e66_117, e66_118, e66_119, e66_120, e66_123, e66_124, e66_125, e66_126, e66_129, e66_130, e66_131, e66_134, e66_135, e66_136, e66_137, e66_138, e66_141, e66_142, e66_143, e66_146, e66_147, e66_148, e66_149, e66_152, e66_153, e66_154, e66_155, e66_158, e66_159, e66_160, e66_163, e66_164, e66_165, e66_166, e66_169, e66_170, e66_171, e66_174, e66_175, e66_176, e66_177, e66_178, e66_181, e66_182, e66_183, e66_186, e26, e27, hs]
    · rw [if_neg c, if_neg c] at hs
      rw [if_neg c, if_neg (by omega)]
      simp (disch := first | assumption | exact zrm0 | exact zrm1 _ | exact zrm2 _ _ | exact zrm3 _ _ _ | exact zrm4 _ _ _ _ | omega) only [m66, ↓k_dp, ↓k_dn, k_dp, k_dn, k_dT, k_dF, k_ip, k_in, if_true, if_false, ne_eq, not_true_eq_false, not_false_eq_true, Int.reduceAdd, zup_a, zup_e, zup_j, z32_id, k_al0, k_gR, k_il3, k_ild, k_ildS, k_ildW, k_al2, k_al1, k_v4r, k_ri, k_v2r, k_v3r, k_s3r, zb0_some, zb1_some, e66_0, e66_1, e66_4, e66_5, e66_6, e66_72, e66_73, e66_74, e66_75, e66_78, e66_79, e66_80, e66_81, e66_84, e66_85, e66_86, e66_89, e66_90, e66_91, e66_92, e66_95, e66_96, e66_97, e66_100, e66_101, e66_102, e66_103, e66_106, e66_107, e66_108, e66_111, e66_112, e66_113, e66_114, e66_117, e66_118, e66_119, e66_120, e66_123, e66_124, e66_125, e66_126, e66_129, e66_130, e66_131, e66_134, e66_135, e66_136, e66_137, e66_138, e66_141, e66_142, e66_143, e66_146, e66_147, e66_148, e66_149, e66_152, e66_153, e66_154, e66_155, e66_158, e66_159, e66_160, e66_163, e66_164, e66_165, e66_166, e66_169, e66_170, e66_171, e66_174, e66_175, e66_176, e66_177, e66_178, e66_181, e66_182, e66_183, e66_186, e26, e27, hs]
  · have e1 : bWhy T (zvG N 30) 30 h q n = sWhySway T h q n := rfl
    have e2 : bNew T (zvG N 30) 30 h q n = tSway T h q n := rfl
    have hs := s_swayHand (d + 1) a y2 h 0 q 0 n 0 (zput N a T) (by omega) h2 (by omega) h4 (by omega)
    rw [zvS_put, hz, zput_put] at hs
    rw [e1, e2]
    by_cases c : sWhySway T h q n = 0
    · rw [if_pos c] at hs ⊢
      simp (disch := first | assumption | exact zrm0 | exact zrm1 _ | exact zrm2 _ _ | exact zrm3 _ _ _ | exact zrm4 _ _ _ _ | omega) only [m66, ↓k_dp, ↓k_dn, k_dp, k_dn, k_dT, k_dF, k_ip, k_in, if_true, if_false, ne_eq, not_true_eq_false, not_false_eq_true, Int.reduceAdd, zup_a, zup_e, zup_j, z32_id, k_al0, k_gR, k_il3, k_ild, k_ildS, k_ildW, k_al2, k_al1, k_v4r, k_ri, k_v2r, k_v3r, k_s3r, zb0_some, zb1_some, e66_0, e66_1, e66_4, e66_5, e66_6, e66_72, e66_73, e66_74, e66_75, e66_78, e66_79, e66_80, e66_81, e66_84, e66_85, e66_86, e66_89, e66_90, e66_91, e66_92, e66_95, e66_96, e66_97, e66_100, e66_101, e66_102, e66_103, e66_106, e66_107, e66_108, e66_111, e66_112, e66_113, e66_114, e66_117, e66_118, e66_119, e66_120, e66_123, e66_124, e66_125, e66_126, e66_129, e66_130, e66_131, e66_134, e66_135, e66_136, e66_137, e66_138, e66_141, e66_142, e66_143, e66_146, e66_147, e66_148, e66_149, e66_152, e66_153, e66_154, e66_155, e66_158, e66_159, e66_160, e66_163, e66_164, e66_165, e66_166, e66_169, e66_170, e66_171, e66_174, e66_175, e66_176, e66_177, e66_178, e66_181, e66_182, e66_183, e66_186, e26, e27, e28, e29, hs]
    · rw [if_neg c] at hs ⊢
      simp (disch := first | assumption | exact zrm0 | exact zrm1 _ | exact zrm2 _ _ | exact zrm3 _ _ _ | exact zrm4 _ _ _ _ | omega) only [m66, ↓k_dp, ↓k_dn, k_dp, k_dn, k_dT, k_dF, k_ip, k_in, if_true, if_false, ne_eq, not_true_eq_false, not_false_eq_true, Int.reduceAdd, zup_a, zup_e, zup_j, z32_id, k_al0, k_gR, k_il3, k_ild, k_ildS, k_ildW, k_al2, k_al1, k_v4r, k_ri, k_v2r, k_v3r, k_s3r, zb0_some, zb1_some, e66_0, e66_1, e66_4, e66_5, e66_6, e66_72, e66_73, e66_74, e66_75, e66_78, e66_79, e66_80, e66_81, e66_84, e66_85, e66_86, e66_89, e66_90, e66_91, e66_92, e66_95, e66_96, e66_97, e66_100, e66_101, e66_102, e66_103, e66_106, e66_107, e66_108, e66_111, e66_112, e66_113, e66_114, e66_117, e66_118, e66_119, e66_120, e66_123, e66_124, e66_125, e66_126, e66_129, e66_130, e66_131, e66_134, e66_135, e66_136, e66_137, e66_138, e66_141, e66_142, e66_143, e66_146, e66_147, e66_148, e66_149, e66_152, e66_153, e66_154, e66_155, e66_158, e66_159, e66_160, e66_163, e66_164, e66_165, e66_166, e66_169, e66_170, e66_171, e66_174, e66_175, e66_176, e66_177, e66_178, e66_181, e66_182, e66_183, e66_186, e26, e27, e28, e29, hs]
  · have e1 : bWhy T (zvG N 30) 40 h q n = sWhyPut T (zvG N 30) q := rfl
    have e2 : bNew T (zvG N 30) 40 h q n = tPut T (zvG N 30) q := rfl
    have hs := s_put0 d a y2 30 y1 q 0 N T hz (by omega) (by omega) hG h0 (by omega)
    rw [e1, e2]
    simp (disch := first | assumption | exact zrm0 | exact zrm1 _ | exact zrm2 _ _ | exact zrm3 _ _ _ | exact zrm4 _ _ _ _ | omega) only [m66, ↓k_dp, ↓k_dn, k_dp, k_dn, k_dT, k_dF, k_ip, k_in, if_true, if_false, ne_eq, not_true_eq_false, not_false_eq_true, Int.reduceAdd, zup_a, zup_e, zup_j, z32_id, k_al0, k_gR, k_il3, k_ild, k_ildS, k_ildW, k_al2, k_al1, k_v4r, k_ri, k_v2r, k_v3r, k_s3r, zb0_some, zb1_some, e66_0, e66_1, e66_4, e66_5, e66_6, e66_72, e66_73, e66_74, e66_75, e66_78, e66_79, e66_80, e66_81, e66_84, e66_85, e66_86, e66_89, e66_90, e66_91, e66_92, e66_95, e66_96, e66_97, e66_100, e66_101, e66_102, e66_103, e66_106, e66_107, e66_108, e66_111, e66_112, e66_113, e66_114, e66_117, e66_118, e66_119, e66_120, e66_123, e66_124, e66_125, e66_126, e66_129, e66_130, e66_131, e66_134, e66_135, e66_136, e66_137, e66_138, e66_141, e66_142, e66_143, e66_146, e66_147, e66_148, e66_149, e66_152, e66_153, e66_154, e66_155, e66_158, e66_159, e66_160, e66_163, e66_164, e66_165, e66_166, e66_169, e66_170, e66_171, e66_174, e66_175, e66_176, e66_177, e66_178, e66_181, e66_182, e66_183, e66_186, e26, e28, hs]
  · have e1 : bWhy T (zvG N 30) 50 h q n = if T 8 q = n then 1 else 0 := rfl
    have e2 : bNew T (zvG N 30) 50 h q n = zup T 8 q n := rfl
    have hs := s_laySand (d + 3) a y2 q 0 n 0 (zput N a T) (by omega) h0 (by omega)
    rw [zvS_put, hz, zput_put] at hs
    rw [e1, e2]
    by_cases c : T 8 q = n
    · rw [if_pos c, if_pos c] at hs
      rw [if_pos c, if_neg (by omega)]
      simp (disch := first | assumption | exact zrm0 | exact zrm1 _ | exact zrm2 _ _ | exact zrm3 _ _ _ | exact zrm4 _ _ _ _ | omega) only [m66, ↓k_dp, ↓k_dn, k_dp, k_dn, k_dT, k_dF, k_ip, k_in, if_true, if_false, ne_eq, not_true_eq_false, not_false_eq_true, Int.reduceAdd, zup_a, zup_e, zup_j, z32_id, k_al0, k_gR, k_il3, k_ild, k_ildS, k_ildW, k_al2, k_al1, k_v4r, k_ri, k_v2r, k_v3r, k_s3r, zb0_some, zb1_some, e66_0, e66_1, e66_4, e66_5, e66_6, e66_72, e66_73, e66_74, e66_75, e66_78, e66_79, e66_80, e66_81, e66_84, e66_85, e66_86, e66_89, e66_90, e66_91, e66_92, e66_95, e66_96, e66_97, e66_100, e66_101, e66_102, e66_103, e66_106, e66_107, e66_108, e66_111, e66_112, e66_113, e66_114, e66_117, e66_118, e66_119, e66_120, e66_123, e66_124, e66_125, e66_126, e66_129, e66_130, e66_131, e66_134, e66_135, e66_136, e66_137, e66_138, e66_141, e66_142, e66_143, e66_146, e66_147, e66_148, e66_149, e66_152, e66_153, e66_154, e66_155, e66_158, e66_159, e66_160, e66_163, e66_164, e66_165, e66_166, e66_169, e66_170, e66_171, e66_174, e66_175, e66_176, e66_177, e66_178, e66_181, e66_182, e66_183, e66_186, e26, e28, e29, hs]
    · rw [if_neg c, if_neg c] at hs
      rw [if_neg c, if_pos rfl]
      simp (disch := first | assumption | exact zrm0 | exact zrm1 _ | exact zrm2 _ _ | exact zrm3 _ _ _ | exact zrm4 _ _ _ _ | omega) only [m66, ↓k_dp, ↓k_dn, k_dp, k_dn, k_dT, k_dF, k_ip, k_in, if_true, if_false, ne_eq, not_true_eq_false, not_false_eq_true, Int.reduceAdd, zup_a, zup_e, zup_j, z32_id, k_al0, k_gR, k_il3, k_ild, k_ildS, k_ildW, k_al2, k_al1, k_v4r, k_ri, k_v2r, k_v3r, k_s3r, zb0_some, zb1_some, e66_0, e66_1, e66_4, e66_5, e66_6, e66_72, e66_73, e66_74, e66_75, e66_78, e66_79, e66_80, e66_81, e66_84, e66_85, e66_86, e66_89, e66_90, e66_91, e66_92, e66_95, e66_96, e66_97, e66_100, e66_101, e66_102, e66_103, e66_106, e66_107, e66_108, e66_111, e66_112, e66_113, e66_114, e66_117, e66_118, e66_119, e66_120, e66_123, e66_124, e66_125, e66_126, e66_129, e66_130, e66_131, e66_134, e66_135, e66_136, e66_137, e66_138, e66_141, e66_142, e66_143, e66_146, e66_147, e66_148, e66_149, e66_152, e66_153, e66_154, e66_155, e66_158, e66_159, e66_160, e66_163, e66_164, e66_165, e66_166, e66_169, e66_170, e66_171, e66_174, e66_175, e66_176, e66_177, e66_178, e66_181, e66_182, e66_183, e66_186, e26, e28, e29, hs]
  · have e1 : bWhy T (zvG N 30) 60 h q n = if T 0 9 = q then 1 else 0 := rfl
    have e2 : bNew T (zvG N 30) 60 h q n = zup T 0 9 q := rfl
    have hs := s_turnWeather (d + 3) a y2 q 0 (zput N a T) (by omega)
    rw [zvS_put, hz, zput_put] at hs
    rw [e1, e2]
    by_cases c : T 0 9 = q
    · rw [if_pos c, if_pos c] at hs
      rw [if_pos c, if_neg (by omega)]
      simp (disch := first | assumption | exact zrm0 | exact zrm1 _ | exact zrm2 _ _ | exact zrm3 _ _ _ | exact zrm4 _ _ _ _ | omega) only [m66, ↓k_dp, ↓k_dn, k_dp, k_dn, k_dT, k_dF, k_ip, k_in, if_true, if_false, ne_eq, not_true_eq_false, not_false_eq_true, Int.reduceAdd, zup_a, zup_e, zup_j, z32_id, k_al0, k_gR, k_il3, k_ild, k_ildS, k_ildW, k_al2, k_al1, k_v4r, k_ri, k_v2r, k_v3r, k_s3r, zb0_some, zb1_some, e66_0, e66_1, e66_4, e66_5, e66_6, e66_72, e66_73, e66_74, e66_75, e66_78, e66_79, e66_80, e66_81, e66_84, e66_85, e66_86, e66_89, e66_90, e66_91, e66_92, e66_95, e66_96, e66_97, e66_100, e66_101, e66_102, e66_103, e66_106, e66_107, e66_108, e66_111, e66_112, e66_113, e66_114, e66_117, e66_118, e66_119, e66_120, e66_123, e66_124, e66_125, e66_126, e66_129, e66_130, e66_131, e66_134, e66_135, e66_136, e66_137, e66_138, e66_141, e66_142, e66_143, e66_146, e66_147, e66_148, e66_149, e66_152, e66_153, e66_154, e66_155, e66_158, e66_159, e66_160, e66_163, e66_164, e66_165, e66_166, e66_169, e66_170, e66_171, e66_174, e66_175, e66_176, e66_177, e66_178, e66_181, e66_182, e66_183, e66_186, e26, e28, hs]
    · rw [if_neg c, if_neg c] at hs
      rw [if_neg c, if_pos rfl]
      simp (disch := first | assumption | exact zrm0 | exact zrm1 _ | exact zrm2 _ _ | exact zrm3 _ _ _ | exact zrm4 _ _ _ _ | omega) only [m66, ↓k_dp, ↓k_dn, k_dp, k_dn, k_dT, k_dF, k_ip, k_in, if_true, if_false, ne_eq, not_true_eq_false, not_false_eq_true, Int.reduceAdd, zup_a, zup_e, zup_j, z32_id, k_al0, k_gR, k_il3, k_ild, k_ildS, k_ildW, k_al2, k_al1, k_v4r, k_ri, k_v2r, k_v3r, k_s3r, zb0_some, zb1_some, e66_0, e66_1, e66_4, e66_5, e66_6, e66_72, e66_73, e66_74, e66_75, e66_78, e66_79, e66_80, e66_81, e66_84, e66_85, e66_86, e66_89, e66_90, e66_91, e66_92, e66_95, e66_96, e66_97, e66_100, e66_101, e66_102, e66_103, e66_106, e66_107, e66_108, e66_111, e66_112, e66_113, e66_114, e66_117, e66_118, e66_119, e66_120, e66_123, e66_124, e66_125, e66_126, e66_129, e66_130, e66_131, e66_134, e66_135, e66_136, e66_137, e66_138, e66_141, e66_142, e66_143, e66_146, e66_147, e66_148, e66_149, e66_152, e66_153, e66_154, e66_155, e66_158, e66_159, e66_160, e66_163, e66_164, e66_165, e66_166, e66_169, e66_170, e66_171, e66_174, e66_175, e66_176, e66_177, e66_178, e66_181, e66_182, e66_183, e66_186, e26, e28, hs]
  · have e1 : bWhy T (zvG N 30) 70 h q n = if 400 - T 0 10 < n then 1 else 0 := rfl
    have e2 : bNew T (zvG N 30) 70 h q n = tDays (zvG N 30) n.toNat T := rfl
    have hs := s_passD (d + 1) a y1 y2 n 0 N T ha hG hT (by omega) h1
    rw [e1, e2]
    by_cases c : 400 - T 0 10 < n
    · rw [if_pos c, if_pos c] at hs
      rw [if_pos c, if_neg (by omega)]
      simp (disch := first | assumption | exact zrm0 | exact zrm1 _ | exact zrm2 _ _ | exact zrm3 _ _ _ | exact zrm4 _ _ _ _ | omega) only [m66, ↓k_dp, ↓k_dn, k_dp, k_dn, k_dT, k_dF, k_ip, k_in, if_true, if_false, ne_eq, not_true_eq_false, not_false_eq_true, Int.reduceAdd, zup_a, zup_e, zup_j, z32_id, k_al0, k_gR, k_il3, k_ild, k_ildS, k_ildW, k_al2, k_al1, k_v4r, k_ri, k_v2r, k_v3r, k_s3r, zb0_some, zb1_some, e66_0, e66_1, e66_4, e66_5, e66_6, e66_72, e66_73, e66_74, e66_75, e66_78, e66_79, e66_80, e66_81, e66_84, e66_85, e66_86, e66_89, e66_90, e66_91, e66_92, e66_95, e66_96, e66_97, e66_100, e66_101, e66_102, e66_103, e66_106, e66_107, e66_108, e66_111, e66_112, e66_113, e66_114, e66_117, e66_118, e66_119, e66_120, e66_123, e66_124, e66_125, e66_126, e66_129, e66_130, e66_131, e66_134, e66_135, e66_136, e66_137, e66_138, e66_141, e66_142, e66_143, e66_146, e66_147, e66_148, e66_149, e66_152, e66_153, e66_154, e66_155, e66_158, e66_159, e66_160, e66_163, e66_164, e66_165, e66_166, e66_169, e66_170, e66_171, e66_174, e66_175, e66_176, e66_177, e66_178, e66_181, e66_182, e66_183, e66_186, e26, e29, hs]
    · rw [if_neg c, if_neg c] at hs
      rw [if_neg c, if_pos rfl]
      simp (disch := first | assumption | exact zrm0 | exact zrm1 _ | exact zrm2 _ _ | exact zrm3 _ _ _ | exact zrm4 _ _ _ _ | omega) only [m66, ↓k_dp, ↓k_dn, k_dp, k_dn, k_dT, k_dF, k_ip, k_in, if_true, if_false, ne_eq, not_true_eq_false, not_false_eq_true, Int.reduceAdd, zup_a, zup_e, zup_j, z32_id, k_al0, k_gR, k_il3, k_ild, k_ildS, k_ildW, k_al2, k_al1, k_v4r, k_ri, k_v2r, k_v3r, k_s3r, zb0_some, zb1_some, e66_0, e66_1, e66_4, e66_5, e66_6, e66_72, e66_73, e66_74, e66_75, e66_78, e66_79, e66_80, e66_81, e66_84, e66_85, e66_86, e66_89, e66_90, e66_91, e66_92, e66_95, e66_96, e66_97, e66_100, e66_101, e66_102, e66_103, e66_106, e66_107, e66_108, e66_111, e66_112, e66_113, e66_114, e66_117, e66_118, e66_119, e66_120, e66_123, e66_124, e66_125, e66_126, e66_129, e66_130, e66_131, e66_134, e66_135, e66_136, e66_137, e66_138, e66_141, e66_142, e66_143, e66_146, e66_147, e66_148, e66_149, e66_152, e66_153, e66_154, e66_155, e66_158, e66_159, e66_160, e66_163, e66_164, e66_165, e66_166, e66_169, e66_170, e66_171, e66_174, e66_175, e66_176, e66_177, e66_178, e66_181, e66_182, e66_183, e66_186, e26, e29, hs]
theorem okD_b {T G : zM} {w h q n : Int} (hG : okG G) (hT : okD T G) (hb : bLn (G 0 7) (G 0 8) w h q n) : okD (bT T G w h q n) G := by
  obtain ⟨-, ⟨g1, g2⟩, ⟨g3, g4⟩, -⟩ := id hG
  obtain ⟨hz, hS, hH⟩ := id hT
  have hday := hS.2.2.1
  unfold bT
  by_cases c : bWhy T G w h q n = 0
  · rw [if_pos c]
    rcases hb with ⟨rfl, h0, h1, h2, h3⟩ | ⟨rfl, h0, h1⟩ | ⟨rfl, h0, h1⟩ | ⟨rfl, h0, h1, h2, h3, h4, h5⟩ | ⟨rfl, h0, h1⟩ | ⟨rfl, h0, h1, h2, h3⟩ | ⟨rfl, h0, h1⟩ | ⟨rfl, h0, h1⟩
    · show okD (tBuy T G h n) G
      exact ⟨by unfold tBuy; exact zt_up (by unfold sdom; omega) (zt_up (by unfold sdom; omega) hz), okS_buy hS hG h0 (by omega) h2 h3 c, okH_buy hH h1⟩
    · show okD (zup T 0 8 (zor (T 0 8) (zshl 1 h))) G
      have hb := (zbits hS.1.1 hS.1.2 h0 (by omega)).2.2.2.1
      exact okD_row hT (by unfold sdom; omega) (by omega) (by omega) (okS_u08 hS hb.1 hb.2)
    · show okD (zup T 0 8 (zand (T 0 8) (zxor (zshl 1 h) (-1)))) G
      have hb := (zbits hS.1.1 hS.1.2 h0 (by omega)).2.2.2.2
      exact okD_row hT (by unfold sdom; omega) (by omega) (by omega) (okS_u08 hS hb.1 hb.2)
    · show okD (tSway T h q n) G
      exact ⟨zt_sway hz h2 (by omega), okS_sway hS h0 (by omega) h2 (by omega), okH_sway hH⟩
    · show okD (tPut T G q) G
      exact ⟨zt_put hz h0 (by omega) ⟨g1, g2⟩, okS_put hS hG h0 (by omega), okH_put hH g1 hS hG⟩
    · show okD (zup T 8 q n) G
      exact okD_row hT (by unfold sdom; omega) (by omega) (by omega) (okS_u8 hS h2 h3)
    · show okD (zup T 0 9 q) G
      exact okD_row hT (by unfold sdom; omega) (by omega) (by omega) (okS_u09 hS h0 h1)
    · show okD (tDays G n.toNat T) G
      have e1 : bWhy T G 70 h q n = if 400 - T 0 10 < n then 1 else 0 := rfl
      rw [e1] at c
      have c2 : ¬ 400 - T 0 10 < n := fun z => by rw [if_pos z] at c; omega
      exact (tDays_ok hG n.toNat T hT (by omega)).1
  · rw [if_neg c]
    exact hT
theorem sPut_b {T G : zM} {w h q n : Int} (hG : okG G) (hT : okD T G) (hb : bLn (G 0 7) (G 0 8) w h q n) (c : bWhy T G w h q n = 0) : sPut (bNew T G w h q n) G = if w = 40 then true else if w = 70 then false else sPut T G := by
  obtain ⟨-, ⟨g1, g2⟩, ⟨g3, g4⟩, -⟩ := id hG
  obtain ⟨hz, hS, hH⟩ := id hT
  have hday := hS.2.2.1
  rcases hb with ⟨rfl, h0, h1, h2, h3⟩ | ⟨rfl, h0, h1⟩ | ⟨rfl, h0, h1⟩ | ⟨rfl, h0, h1, h2, h3, h4, h5⟩ | ⟨rfl, h0, h1⟩ | ⟨rfl, h0, h1, h2, h3⟩ | ⟨rfl, h0, h1⟩ | ⟨rfl, h0, h1⟩
  · rw [if_neg (by omega), if_neg (by omega)]
    show sPut (tBuy T G h n) G = _
    unfold tBuy
    exact sPut_eq (fun q => by rw [zup_a (by omega), zup_a (by omega)]) (fun q => by rw [zup_a (by omega), zup_a (by omega)]) (by rw [zup_a (by omega), zup_a (by omega)])
  · rw [if_neg (by omega), if_neg (by omega)]
    show sPut (zup T 0 8 (zor (T 0 8) (zshl 1 h))) G = _
    exact sPut_eq (fun q => zup_a (by omega)) (fun q => zup_a (by omega)) (zup_j (by omega))
  · rw [if_neg (by omega), if_neg (by omega)]
    show sPut (zup T 0 8 (zand (T 0 8) (zxor (zshl 1 h) (-1)))) G = _
    exact sPut_eq (fun q => zup_a (by omega)) (fun q => zup_a (by omega)) (zup_j (by omega))
  · rw [if_neg (by omega), if_neg (by omega)]
    show sPut (tSway T h q n) G = _
    unfold tSway
    split
    · exact sPut_eq (fun q => by rw [zup_a (by omega), zup_a (by omega)]) (fun q => by rw [zup_a (by omega), zup_a (by omega)]) (by rw [zup_a (by omega), zup_a (by omega)])
    · exact sPut_eq (fun q => by rw [zup_a (by omega), zup_a (by omega)]) (fun q => by rw [zup_a (by omega), zup_a (by omega)]) (by rw [zup_a (by omega), zup_a (by omega)])
  · rw [if_pos rfl]
    exact sPut_put h0 h1
  · rw [if_neg (by omega), if_neg (by omega)]
    show sPut (zup T 8 q n) G = _
    exact sPut_eq (fun q => zup_a (by omega)) (fun q => zup_a (by omega)) (zup_a (by omega))
  · rw [if_neg (by omega), if_neg (by omega)]
    show sPut (zup T 0 9 q) G = _
    exact sPut_eq (fun q => zup_a (by omega)) (fun q => zup_a (by omega)) (zup_j (by omega))
  · rw [if_neg (by omega), if_pos rfl]
    show sPut (tDays G n.toNat T) G = _
    have e1 : bWhy T G 70 h q n = if 400 - T 0 10 < n then 1 else 0 := rfl
    rw [e1] at c
    have c2 : ¬ 400 - T 0 10 < n := fun z => by rw [if_pos z] at c; omega
    exact (tDays_ok hG n.toNat T hT (by omega)).2.2 (by omega)

/-- the reference's line -/
theorem r_goBy (d : Nat) (z0 j y0 w h q n t x y z : Int) (B T : zM) (sd f : Int) (hG : okG (zrG B)) (hT : okD T (zrG B)) (hf : f = zfl (sPut T (zrG B))) (j0 : 0 ≤ j) (j1 : j < 40) (et : B 216 (4 * j) = t) (ex : B 216 (4 * j + 1) = x) (ey : B 216 (4 * j + 2) = y) (ez : B 216 (4 * j + 3) = z) (hb : bkL (zrG B 0 7) (zrG B 0 8) w h q n t x y z) : zEm true (d + 8) 282 [(30, 197, z0), (0, 4 * j, y0)] (rm B sd f T) = some ((0, if bWhy T (zrG B) w h q n = 0 then 0 else w + bWhy T (zrG B) w h q n, 0), rm B sd (zfl (sPut (bT T (zrG B) w h q n) (zrG B))) (bT T (zrG B) w h q n)) := by
  obtain ⟨-, ⟨g1, g2⟩, ⟨g3, g4⟩, -⟩ := id hG
  have hz : zt T = T := hT.1
  have hS := hT.2.1
  have hday := hS.2.2.1
  have hl := bLn_of hb
  have m0 : rm B sd f T 216 (4 * j) = t := by rw [rm_o (by omega) (by omega)]; exact et
  have m1 : rm B sd f T 216 (4 * j + 1) = x := by rw [rm_o (by omega) (by omega)]; exact ex
  have m2 : rm B sd f T 216 (4 * j + 2) = y := by rw [rm_o (by omega) (by omega)]; exact ey
  have m3 : rm B sd f T 216 (4 * j + 3) = z := by rw [rm_o (by omega) (by omega)]; exact ez
  have hp : ∀ v, bWhy T (zrG B) w h q n = 0 → v = zfl (if w = 40 then true else if w = 70 then false else sPut T (zrG B)) → rm B sd (zfl (sPut (bT T (zrG B) w h q n) (zrG B))) (bT T (zrG B) w h q n) = rm B sd v (bNew T (zrG B) w h q n) := fun v c hv => by
    unfold bT
    rw [if_pos c, sPut_b hG hT hl c, hv]
  have hno : bWhy T (zrG B) w h q n ≠ 0 → rm B sd (zfl (sPut (bT T (zrG B) w h q n) (zrG B))) (bT T (zrG B) w h q n) = rm B sd f T := fun c => by
    unfold bT
    rw [if_neg c, hf]
  have hf1 : rm B sd f T 199 78 = if sPut (zrS (rm B sd f T)) (zrG (rm B sd f T)) = true then 1 else 0 := by
    rw [rm_78, rm_S, rm_G, hz]
    exact hf
  have hS2 : okS (zrS (rm B sd f T)) := by rw [rm_S, hz]; exact hS
  have hG2 : okG (zrG (rm B sd f T)) := by rw [rm_G]; exact hG
  clear et ex ey ez
  obtain ⟨hw, hb⟩ := hb
  rcases hb with ⟨rfl, rfl, rfl, h0, h1, h2, h3⟩ | ⟨rfl | rfl, rfl, h0, h1⟩ | ⟨rfl, rfl, rfl, rfl, h0, h1, h2, h3, h4, h5⟩ | ⟨rfl, rfl, h0, h1⟩ | ⟨rfl, rfl, rfl, h0, h1, h2, h3⟩ | ⟨rfl, rfl, h0, h1⟩ | ⟨rfl, rfl, h0, h1⟩
  · obtain rfl : w = 0 := by omega
    have e1 : bWhy T (zrG B) 0 x q y = sWhyBuy T (zrG B) x y := rfl
    have e2 : bNew T (zrG B) 0 x q y = tBuy T (zrG B) x y := rfl
    have hy := r_why_buy (d + 4) z0 0 x 0 y 0 z 0 (rm B sd f T) h0 (by omega)
    rw [rm_S, rm_G, hz] at hy
    have hv := r_liveM_buy (d + 6) z0 0 x 0 y 0 z 0 (rm B sd f T) h0 (by omega)
    rw [rm_S, rm_G, hz, rm_put] at hv
    by_cases c : bWhy T (zrG B) 0 x q y = 0
    · rw [hp f c hf, e2, if_pos c]
      rw [e1] at c
      rw [c] at hy
      simp (disch := first | assumption | exact zrm0 | exact zrm1 _ | exact zrm2 _ _ | exact zrm3 _ _ _ | exact zrm4 _ _ _ _ | omega) only [m282, ↓k_dp, ↓k_dn, k_dp, k_dn, k_dT, k_dF, k_ip, k_in, if_true, if_false, ne_eq, not_true_eq_false, not_false_eq_true, Int.reduceAdd, zup_a, zup_e, zup_j, z32_id, k_al0, k_gR, k_il1, k_ic, k_iadd, k_ild, k_ildS, k_ildW, k_is2, k_icne, k_il2, k_icle, k_ri, k_v2r, k_pop, k_v5r, k_is3, k_il3, k_ifeq, k_imul, k_v5, zb0_some, zb1_some, e282_0, e282_1, e282_4, e282_5, e282_6, e282_7, e282_8, e282_9, e282_10, e282_13, e282_14, e282_15, e282_17, e282_20, e282_21, e282_24, e282_26, e282_27, e282_28, e282_29, e282_32, e282_35, e282_37, e282_38, e282_39, e282_40, e282_43, e282_44, e282_45, e282_46, e282_47, e282_48, e282_51, e282_52, e282_53, e282_54, e282_55, e282_58, e282_59, e282_60, e282_61, e282_62, e282_63, e282_66, e282_67, e282_68, e282_69, e282_70, e282_73, e282_74, e282_75, e282_78, e282_80, e282_81, e282_84, e282_85, e282_86, e282_87, e282_88, e282_89, e282_90, e282_91, e282_92, e282_95, e282_96, e282_97, e282_98, e282_99, e282_102, e282_103, e282_104, e282_105, e282_106, e282_107, e282_110, e282_111, e282_112, e282_113, e282_114, e282_117, e282_118, m0, m1, m2, m3, hy, hv]
    · rw [hno c, if_neg c]
      rw [e1] at c ⊢
      have hbd := bWhy_bd (T := T) (G := zrG B) (w := 0) (h := x) (q := q) (n := y)
      rw [e1] at hbd
      generalize sWhyBuy T (zrG B) x y = u at *
      simp (disch := first | assumption | exact zrm0 | exact zrm1 _ | exact zrm2 _ _ | exact zrm3 _ _ _ | exact zrm4 _ _ _ _ | omega) only [m282, ↓k_dp, ↓k_dn, k_dp, k_dn, k_dT, k_dF, k_ip, k_in, if_true, if_false, ne_eq, not_true_eq_false, not_false_eq_true, Int.reduceAdd, zup_a, zup_e, zup_j, z32_id, k_al0, k_gR, k_il1, k_ic, k_iadd, k_ild, k_ildS, k_ildW, k_is2, k_icne, k_il2, k_icle, k_ri, k_v2r, k_pop, k_v5r, k_is3, k_il3, k_ifeq, k_imul, k_v5, zb0_some, zb1_some, e282_0, e282_1, e282_4, e282_5, e282_6, e282_7, e282_8, e282_9, e282_10, e282_13, e282_14, e282_15, e282_17, e282_20, e282_21, e282_24, e282_26, e282_27, e282_28, e282_29, e282_32, e282_35, e282_37, e282_38, e282_39, e282_40, e282_43, e282_44, e282_45, e282_46, e282_47, e282_48, e282_51, e282_52, e282_53, e282_54, e282_55, e282_58, e282_59, e282_60, e282_61, e282_62, e282_63, e282_66, e282_67, e282_68, e282_69, e282_70, e282_73, e282_74, e282_75, e282_78, e282_80, e282_81, e282_84, e282_85, e282_86, e282_87, e282_88, e282_89, e282_90, e282_91, e282_92, e282_95, e282_96, e282_97, e282_98, e282_99, e282_102, e282_103, e282_104, e282_105, e282_106, e282_107, e282_110, e282_111, e282_112, e282_113, e282_114, e282_117, e282_118, m0, m1, m2, m3, hy, Int.reduceMul]
  · obtain rfl : w = 10 := by omega
    have e1 : bWhy T (zrG B) 10 x q n = if zbit (T 0 8) x ≠ 0 then 1 else 0 := rfl
    have e2 : bNew T (zrG B) 10 x q n = zup T 0 8 (zor (T 0 8) (zshl 1 x)) := rfl
    have hy := r_why_strike (d + 4) z0 0 x 0 y 0 z 0 (rm B sd f T)
    rw [rm_S, hz] at hy
    have hv := r_liveM_strike (d + 6) z0 0 x 0 y 0 z 0 (rm B sd f T)
    rw [rm_S, hz, rm_put] at hv
    by_cases c : zbit (T 0 8) x ≠ 0
    · have c0 : bWhy T (zrG B) 10 x q n = 1 := by rw [e1, if_pos c]
      rw [if_pos c] at hy
      rw [hno (by omega), if_neg (by omega), c0]
      simp (disch := first | assumption | exact zrm0 | exact zrm1 _ | exact zrm2 _ _ | exact zrm3 _ _ _ | exact zrm4 _ _ _ _ | omega) only [m282, ↓k_dp, ↓k_dn, k_dp, k_dn, k_dT, k_dF, k_ip, k_in, if_true, if_false, ne_eq, not_true_eq_false, not_false_eq_true, Int.reduceAdd, zup_a, zup_e, zup_j, z32_id, k_al0, k_gR, k_il1, k_ic, k_iadd, k_ild, k_ildS, k_ildW, k_is2, k_icne, k_il2, k_icle, k_ri, k_v2r, k_pop, k_v5r, k_is3, k_il3, k_ifeq, k_imul, k_v5, zb0_some, zb1_some, e282_0, e282_1, e282_4, e282_5, e282_6, e282_7, e282_8, e282_9, e282_10, e282_13, e282_14, e282_15, e282_17, e282_20, e282_21, e282_24, e282_26, e282_27, e282_28, e282_29, e282_32, e282_35, e282_37, e282_38, e282_39, e282_40, e282_43, e282_44, e282_45, e282_46, e282_47, e282_48, e282_51, e282_52, e282_53, e282_54, e282_55, e282_58, e282_59, e282_60, e282_61, e282_62, e282_63, e282_66, e282_67, e282_68, e282_69, e282_70, e282_73, e282_74, e282_75, e282_78, e282_80, e282_81, e282_84, e282_85, e282_86, e282_87, e282_88, e282_89, e282_90, e282_91, e282_92, e282_95, e282_96, e282_97, e282_98, e282_99, e282_102, e282_103, e282_104, e282_105, e282_106, e282_107, e282_110, e282_111, e282_112, e282_113, e282_114, e282_117, e282_118, m0, m1, m2, m3, hy, Int.reduceMul]
    · have c0 : bWhy T (zrG B) 10 x q n = 0 := by rw [e1, if_neg c]
      rw [if_neg c] at hy
      rw [hp f c0 hf, e2, if_pos c0]
      have hbt := zbits hS.1.1 hS.1.2 h0 (by omega)
      rw [hbt.1 (by omega)] at hv
      simp (disch := first | assumption | exact zrm0 | exact zrm1 _ | exact zrm2 _ _ | exact zrm3 _ _ _ | exact zrm4 _ _ _ _ | omega) only [m282, ↓k_dp, ↓k_dn, k_dp, k_dn, k_dT, k_dF, k_ip, k_in, if_true, if_false, ne_eq, not_true_eq_false, not_false_eq_true, Int.reduceAdd, zup_a, zup_e, zup_j, z32_id, k_al0, k_gR, k_il1, k_ic, k_iadd, k_ild, k_ildS, k_ildW, k_is2, k_icne, k_il2, k_icle, k_ri, k_v2r, k_pop, k_v5r, k_is3, k_il3, k_ifeq, k_imul, k_v5, zb0_some, zb1_some, e282_0, e282_1, e282_4, e282_5, e282_6, e282_7, e282_8, e282_9, e282_10, e282_13, e282_14, e282_15, e282_17, e282_20, e282_21, e282_24, e282_26, e282_27, e282_28, e282_29, e282_32, e282_35, e282_37, e282_38, e282_39, e282_40, e282_43, e282_44, e282_45, e282_46, e282_47, e282_48, e282_51, e282_52, e282_53, e282_54, e282_55, e282_58, e282_59, e282_60, e282_61, e282_62, e282_63, e282_66, e282_67, e282_68, e282_69, e282_70, e282_73, e282_74, e282_75, e282_78, e282_80, e282_81, e282_84, e282_85, e282_86, e282_87, e282_88, e282_89, e282_90, e282_91, e282_92, e282_95, e282_96, e282_97, e282_98, e282_99, e282_102, e282_103, e282_104, e282_105, e282_106, e282_107, e282_110, e282_111, e282_112, e282_113, e282_114, e282_117, e282_118, m0, m1, m2, m3, hy, hv]
  · obtain rfl : w = 20 := by omega
    have e1 : bWhy T (zrG B) 20 x q n = if zbit (T 0 8) x ≠ 0 then 0 else 1 := rfl
    have e2 : bNew T (zrG B) 20 x q n = zup T 0 8 (zand (T 0 8) (zxor (zshl 1 x) (-1))) := rfl
    have hy := r_why_work (d + 4) z0 0 x 0 y 0 z 0 (rm B sd f T)
    rw [rm_S, hz] at hy
    have hv := r_liveM_work (d + 6) z0 0 x 0 y 0 z 0 (rm B sd f T)
    rw [rm_S, hz, rm_put] at hv
    by_cases c : zbit (T 0 8) x ≠ 0
    · have c0 : bWhy T (zrG B) 20 x q n = 0 := by rw [e1, if_pos c]
      rw [if_pos c] at hy
      rw [hp f c0 hf, e2, if_pos c0]
      have hbt := zbits hS.1.1 hS.1.2 h0 (by omega)
      rw [hbt.2.1 c] at hv
      simp (disch := first | assumption | exact zrm0 | exact zrm1 _ | exact zrm2 _ _ | exact zrm3 _ _ _ | exact zrm4 _ _ _ _ | omega) only [m282, ↓k_dp, ↓k_dn, k_dp, k_dn, k_dT, k_dF, k_ip, k_in, if_true, if_false, ne_eq, not_true_eq_false, not_false_eq_true, Int.reduceAdd, zup_a, zup_e, zup_j, z32_id, k_al0, k_gR, k_il1, k_ic, k_iadd, k_ild, k_ildS, k_ildW, k_is2, k_icne, k_il2, k_icle, k_ri, k_v2r, k_pop, k_v5r, k_is3, k_il3, k_ifeq, k_imul, k_v5, zb0_some, zb1_some, e282_0, e282_1, e282_4, e282_5, e282_6, e282_7, e282_8, e282_9, e282_10, e282_13, e282_14, e282_15, e282_17, e282_20, e282_21, e282_24, e282_26, e282_27, e282_28, e282_29, e282_32, e282_35, e282_37, e282_38, e282_39, e282_40, e282_43, e282_44, e282_45, e282_46, e282_47, e282_48, e282_51, e282_52, e282_53, e282_54, e282_55, e282_58, e282_59, e282_60, e282_61, e282_62, e282_63, e282_66, e282_67, e282_68, e282_69, e282_70, e282_73, e282_74, e282_75, e282_78, e282_80, e282_81, e282_84, e282_85, e282_86, e282_87, e282_88, e282_89, e282_90, e282_91, e282_92, e282_95, e282_96, e282_97, e282_98, e282_99, e282_102, e282_103, e282_104, e282_105, e282_106, e282_107, e282_110, e282_111, e282_112, e282_113, e282_114, e282_117, e282_118, m0, m1, m2, m3, hy, hv]
    · have c0 : bWhy T (zrG B) 20 x q n = 1 := by rw [e1, if_neg c]
      rw [if_neg c] at hy
      rw [hno (by omega), if_neg (by omega), c0]
      simp (disch := first | assumption | exact zrm0 | exact zrm1 _ | exact zrm2 _ _ | exact zrm3 _ _ _ | exact zrm4 _ _ _ _ | omega) only [m282, ↓k_dp, ↓k_dn, k_dp, k_dn, k_dT, k_dF, k_ip, k_in, if_true, if_false, ne_eq, not_true_eq_false, not_false_eq_true, Int.reduceAdd, zup_a, zup_e, zup_j, z32_id, k_al0, k_gR, k_il1, k_ic, k_iadd, k_ild, k_ildS, k_ildW, k_is2, k_icne, k_il2, k_icle, k_ri, k_v2r, k_pop, k_v5r, k_is3, k_il3, k_ifeq, k_imul, k_v5, zb0_some, zb1_some, e282_0, e282_1, e282_4, e282_5, e282_6, e282_7, e282_8, e282_9, e282_10, e282_13, e282_14, e282_15, e282_17, e282_20, e282_21, e282_24, e282_26, e282_27, e282_28, e282_29, e282_32, e282_35, e282_37, e282_38, e282_39, e282_40, e282_43, e282_44, e282_45, e282_46, e282_47, e282_48, e282_51, e282_52, e282_53, e282_54, e282_55, e282_58, e282_59, e282_60, e282_61, e282_62, e282_63, e282_66, e282_67, e282_68, e282_69, e282_70, e282_73, e282_74, e282_75, e282_78, e282_80, e282_81, e282_84, e282_85, e282_86, e282_87, e282_88, e282_89, e282_90, e282_91, e282_92, e282_95, e282_96, e282_97, e282_98, e282_99, e282_102, e282_103, e282_104, e282_105, e282_106, e282_107, e282_110, e282_111, e282_112, e282_113, e282_114, e282_117, e282_118, m0, m1, m2, m3, hy, Int.reduceMul]
  · obtain rfl : w = 30 := by omega
    have e1 : bWhy T (zrG B) 30 x y z = sWhySway T x y z := rfl
    have e2 : bNew T (zrG B) 30 x y z = tSway T x y z := rfl
    have hy := r_why_sway (d + 4) z0 0 x 0 y 0 z 0 (rm B sd f T) h2 (by omega)
    rw [rm_S, hz] at hy
    have hv := r_liveM_sway (d + 5) z0 0 x 0 y 0 z 0 (rm B sd f T) hS2 h0 (by omega) h2 (by omega) h4 (by omega)
    rw [rm_S, hz, rm_put] at hv
    by_cases c : bWhy T (zrG B) 30 x y z = 0
    · rw [hp f c hf, e2, if_pos c]
      rw [e1] at c
      rw [c] at hy
      simp (disch := first | assumption | exact zrm0 | exact zrm1 _ | exact zrm2 _ _ | exact zrm3 _ _ _ | exact zrm4 _ _ _ _ | omega) only [m282, ↓k_dp, ↓k_dn, k_dp, k_dn, k_dT, k_dF, k_ip, k_in, if_true, if_false, ne_eq, not_true_eq_false, not_false_eq_true, Int.reduceAdd, zup_a, zup_e, zup_j, z32_id, k_al0, k_gR, k_il1, k_ic, k_iadd, k_ild, k_ildS, k_ildW, k_is2, k_icne, k_il2, k_icle, k_ri, k_v2r, k_pop, k_v5r, k_is3, k_il3, k_ifeq, k_imul, k_v5, zb0_some, zb1_some, e282_0, e282_1, e282_4, e282_5, e282_6, e282_7, e282_8, e282_9, e282_10, e282_13, e282_14, e282_15, e282_17, e282_20, e282_21, e282_24, e282_26, e282_27, e282_28, e282_29, e282_32, e282_35, e282_37, e282_38, e282_39, e282_40, e282_43, e282_44, e282_45, e282_46, e282_47, e282_48, e282_51, e282_52, e282_53, e282_54, e282_55, e282_58, e282_59, e282_60, e282_61, e282_62, e282_63, e282_66, e282_67, e282_68, e282_69, e282_70, e282_73, e282_74, e282_75, e282_78, e282_80, e282_81, e282_84, e282_85, e282_86, e282_87, e282_88, e282_89, e282_90, e282_91, e282_92, e282_95, e282_96, e282_97, e282_98, e282_99, e282_102, e282_103, e282_104, e282_105, e282_106, e282_107, e282_110, e282_111, e282_112, e282_113, e282_114, e282_117, e282_118, m0, m1, m2, m3, hy, hv]
    · rw [hno c, if_neg c]
      rw [e1] at c ⊢
      have hbd := bWhy_bd (T := T) (G := zrG B) (w := 30) (h := x) (q := y) (n := z)
      rw [e1] at hbd
      generalize sWhySway T x y z = u at *
      simp (disch := first | assumption | exact zrm0 | exact zrm1 _ | exact zrm2 _ _ | exact zrm3 _ _ _ | exact zrm4 _ _ _ _ | omega) only [m282, ↓k_dp, ↓k_dn, k_dp, k_dn, k_dT, k_dF, k_ip, k_in, if_true, if_false, ne_eq, not_true_eq_false, not_false_eq_true, Int.reduceAdd, zup_a, zup_e, zup_j, z32_id, k_al0, k_gR, k_il1, k_ic, k_iadd, k_ild, k_ildS, k_ildW, k_is2, k_icne, k_il2, k_icle, k_ri, k_v2r, k_pop, k_v5r, k_is3, k_il3, k_ifeq, k_imul, k_v5, zb0_some, zb1_some, e282_0, e282_1, e282_4, e282_5, e282_6, e282_7, e282_8, e282_9, e282_10, e282_13, e282_14, e282_15, e282_17, e282_20, e282_21, e282_24, e282_26, e282_27, e282_28, e282_29, e282_32, e282_35, e282_37, e282_38, e282_39, e282_40, e282_43, e282_44, e282_45, e282_46, e282_47, e282_48, e282_51, e282_52, e282_53, e282_54, e282_55, e282_58, e282_59, e282_60, e282_61, e282_62, e282_63, e282_66, e282_67, e282_68, e282_69, e282_70, e282_73, e282_74, e282_75, e282_78, e282_80, e282_81, e282_84, e282_85, e282_86, e282_87, e282_88, e282_89, e282_90, e282_91, e282_92, e282_95, e282_96, e282_97, e282_98, e282_99, e282_102, e282_103, e282_104, e282_105, e282_106, e282_107, e282_110, e282_111, e282_112, e282_113, e282_114, e282_117, e282_118, m0, m1, m2, m3, hy, Int.reduceMul]
  · obtain rfl : w = 40 := by omega
    have e1 : bWhy T (zrG B) 40 h x n = sWhyPut T (zrG B) x := rfl
    have e2 : bNew T (zrG B) 40 h x n = tPut T (zrG B) x := rfl
    have hy := r_why_put (d + 4) z0 0 x 0 y 0 z 0 (rm B sd f T) hf1 h0 (by omega)
    rw [rm_S, rm_G, hz] at hy
    have hv := r_liveM_put (d + 1) z0 0 x 0 y 0 z 0 (rm B sd f T) hS2 hG2 h0 (by omega)
    rw [rm_S, rm_G, hz, rm_fl2] at hv
    by_cases c : bWhy T (zrG B) 40 h x n = 0
    · rw [hp 1 c rfl, e2, if_pos c]
      rw [e1] at c
      rw [c] at hy
      simp (disch := first | assumption | exact zrm0 | exact zrm1 _ | exact zrm2 _ _ | exact zrm3 _ _ _ | exact zrm4 _ _ _ _ | omega) only [m282, ↓k_dp, ↓k_dn, k_dp, k_dn, k_dT, k_dF, k_ip, k_in, if_true, if_false, ne_eq, not_true_eq_false, not_false_eq_true, Int.reduceAdd, zup_a, zup_e, zup_j, z32_id, k_al0, k_gR, k_il1, k_ic, k_iadd, k_ild, k_ildS, k_ildW, k_is2, k_icne, k_il2, k_icle, k_ri, k_v2r, k_pop, k_v5r, k_is3, k_il3, k_ifeq, k_imul, k_v5, zb0_some, zb1_some, e282_0, e282_1, e282_4, e282_5, e282_6, e282_7, e282_8, e282_9, e282_10, e282_13, e282_14, e282_15, e282_17, e282_20, e282_21, e282_24, e282_26, e282_27, e282_28, e282_29, e282_32, e282_35, e282_37, e282_38, e282_39, e282_40, e282_43, e282_44, e282_45, e282_46, e282_47, e282_48, e282_51, e282_52, e282_53, e282_54, e282_55, e282_58, e282_59, e282_60, e282_61, e282_62, e282_63, e282_66, e282_67, e282_68, e282_69, e282_70, e282_73, e282_74, e282_75, e282_78, e282_80, e282_81, e282_84, e282_85, e282_86, e282_87, e282_88, e282_89, e282_90, e282_91, e282_92, e282_95, e282_96, e282_97, e282_98, e282_99, e282_102, e282_103, e282_104, e282_105, e282_106, e282_107, e282_110, e282_111, e282_112, e282_113, e282_114, e282_117, e282_118, m0, m1, m2, m3, hy, hv]
    · rw [hno c, if_neg c]
      rw [e1] at c ⊢
      have hbd := bWhy_bd (T := T) (G := zrG B) (w := 40) (h := h) (q := x) (n := n)
      rw [e1] at hbd
      generalize sWhyPut T (zrG B) x = u at *
      simp (disch := first | assumption | exact zrm0 | exact zrm1 _ | exact zrm2 _ _ | exact zrm3 _ _ _ | exact zrm4 _ _ _ _ | omega) only [m282, ↓k_dp, ↓k_dn, k_dp, k_dn, k_dT, k_dF, k_ip, k_in, if_true, if_false, ne_eq, not_true_eq_false, not_false_eq_true, Int.reduceAdd, zup_a, zup_e, zup_j, z32_id, k_al0, k_gR, k_il1, k_ic, k_iadd, k_ild, k_ildS, k_ildW, k_is2, k_icne, k_il2, k_icle, k_ri, k_v2r, k_pop, k_v5r, k_is3, k_il3, k_ifeq, k_imul, k_v5, zb0_some, zb1_some, e282_0, e282_1, e282_4, e282_5, e282_6, e282_7, e282_8, e282_9, e282_10, e282_13, e282_14, e282_15, e282_17, e282_20, e282_21, e282_24, e282_26, e282_27, e282_28, e282_29, e282_32, e282_35, e282_37, e282_38, e282_39, e282_40, e282_43, e282_44, e282_45, e282_46, e282_47, e282_48, e282_51, e282_52, e282_53, e282_54, e282_55, e282_58, e282_59, e282_60, e282_61, e282_62, e282_63, e282_66, e282_67, e282_68, e282_69, e282_70, e282_73, e282_74, e282_75, e282_78, e282_80, e282_81, e282_84, e282_85, e282_86, e282_87, e282_88, e282_89, e282_90, e282_91, e282_92, e282_95, e282_96, e282_97, e282_98, e282_99, e282_102, e282_103, e282_104, e282_105, e282_106, e282_107, e282_110, e282_111, e282_112, e282_113, e282_114, e282_117, e282_118, m0, m1, m2, m3, hy, Int.reduceMul]
  · obtain rfl : w = 50 := by omega
    have e1 : bWhy T (zrG B) 50 h x y = if T 8 x = y then 1 else 0 := rfl
    have e2 : bNew T (zrG B) 50 h x y = zup T 8 x y := rfl
    have hy := r_why_lay (d + 4) z0 0 x 0 y 0 z 0 (rm B sd f T) h0 (by omega)
    rw [rm_S, hz] at hy
    have hv := r_liveM_lay (d + 6) z0 0 x 0 y 0 z 0 (rm B sd f T) h0 (by omega)
    rw [rm_S, hz, rm_put] at hv
    by_cases c : T 8 x = y
    · have c0 : bWhy T (zrG B) 50 h x y = 1 := by rw [e1, if_pos c]
      rw [if_pos c] at hy
      rw [hno (by omega), if_neg (by omega), c0]
      simp (disch := first | assumption | exact zrm0 | exact zrm1 _ | exact zrm2 _ _ | exact zrm3 _ _ _ | exact zrm4 _ _ _ _ | omega) only [m282, ↓k_dp, ↓k_dn, k_dp, k_dn, k_dT, k_dF, k_ip, k_in, if_true, if_false, ne_eq, not_true_eq_false, not_false_eq_true, Int.reduceAdd, zup_a, zup_e, zup_j, z32_id, k_al0, k_gR, k_il1, k_ic, k_iadd, k_ild, k_ildS, k_ildW, k_is2, k_icne, k_il2, k_icle, k_ri, k_v2r, k_pop, k_v5r, k_is3, k_il3, k_ifeq, k_imul, k_v5, zb0_some, zb1_some, e282_0, e282_1, e282_4, e282_5, e282_6, e282_7, e282_8, e282_9, e282_10, e282_13, e282_14, e282_15, e282_17, e282_20, e282_21, e282_24, e282_26, e282_27, e282_28, e282_29, e282_32, e282_35, e282_37, e282_38, e282_39, e282_40, e282_43, e282_44, e282_45, e282_46, e282_47, e282_48, e282_51, e282_52, e282_53, e282_54, e282_55, e282_58, e282_59, e282_60, e282_61, e282_62, e282_63, e282_66, e282_67, e282_68, e282_69, e282_70, e282_73, e282_74, e282_75, e282_78, e282_80, e282_81, e282_84, e282_85, e282_86, e282_87, e282_88, e282_89, e282_90, e282_91, e282_92, e282_95, e282_96, e282_97, e282_98, e282_99, e282_102, e282_103, e282_104, e282_105, e282_106, e282_107, e282_110, e282_111, e282_112, e282_113, e282_114, e282_117, e282_118, m0, m1, m2, m3, hy, Int.reduceMul]
    · have c0 : bWhy T (zrG B) 50 h x y = 0 := by rw [e1, if_neg c]
      rw [if_neg c] at hy
      rw [hp f c0 hf, e2, if_pos c0]
      simp (disch := first | assumption | exact zrm0 | exact zrm1 _ | exact zrm2 _ _ | exact zrm3 _ _ _ | exact zrm4 _ _ _ _ | omega) only [m282, ↓k_dp, ↓k_dn, k_dp, k_dn, k_dT, k_dF, k_ip, k_in, if_true, if_false, ne_eq, not_true_eq_false, not_false_eq_true, Int.reduceAdd, zup_a, zup_e, zup_j, z32_id, k_al0, k_gR, k_il1, k_ic, k_iadd, k_ild, k_ildS, k_ildW, k_is2, k_icne, k_il2, k_icle, k_ri, k_v2r, k_pop, k_v5r, k_is3, k_il3, k_ifeq, k_imul, k_v5, zb0_some, zb1_some, e282_0, e282_1, e282_4, e282_5, e282_6, e282_7, e282_8, e282_9, e282_10, e282_13, e282_14, e282_15, e282_17, e282_20, e282_21, e282_24, e282_26, e282_27, e282_28, e282_29, e282_32, e282_35, e282_37, e282_38, e282_39, e282_40, e282_43, e282_44, e282_45, e282_46, e282_47, e282_48, e282_51, e282_52, e282_53, e282_54, e282_55, e282_58, e282_59, e282_60, e282_61, e282_62, e282_63, e282_66, e282_67, e282_68, e282_69, e282_70, e282_73, e282_74, e282_75, e282_78, e282_80, e282_81, e282_84, e282_85, e282_86, e282_87, e282_88, e282_89, e282_90, e282_91, e282_92, e282_95, e282_96, e282_97, e282_98, e282_99, e282_102, e282_103, e282_104, e282_105, e282_106, e282_107, e282_110, e282_111, e282_112, e282_113, e282_114, e282_117, e282_118, m0, m1, m2, m3, hy, hv]
  · obtain rfl : w = 60 := by omega
    have e1 : bWhy T (zrG B) 60 h x n = if T 0 9 = x then 1 else 0 := rfl
    have e2 : bNew T (zrG B) 60 h x n = zup T 0 9 x := rfl
    have hy := r_why_weather (d + 4) z0 0 x 0 y 0 z 0 (rm B sd f T)
    rw [rm_S, hz] at hy
    have hv := r_liveM_weather (d + 6) z0 0 x 0 y 0 z 0 (rm B sd f T)
    rw [rm_S, hz, rm_put] at hv
    by_cases c : T 0 9 = x
    · have c0 : bWhy T (zrG B) 60 h x n = 1 := by rw [e1, if_pos c]
      rw [if_pos c] at hy
      rw [hno (by omega), if_neg (by omega), c0]
      simp (disch := first | assumption | exact zrm0 | exact zrm1 _ | exact zrm2 _ _ | exact zrm3 _ _ _ | exact zrm4 _ _ _ _ | omega) only [m282, ↓k_dp, ↓k_dn, k_dp, k_dn, k_dT, k_dF, k_ip, k_in, if_true, if_false, ne_eq, not_true_eq_false, not_false_eq_true, Int.reduceAdd, zup_a, zup_e, zup_j, z32_id, k_al0, k_gR, k_il1, k_ic, k_iadd, k_ild, k_ildS, k_ildW, k_is2, k_icne, k_il2, k_icle, k_ri, k_v2r, k_pop, k_v5r, k_is3, k_il3, k_ifeq, k_imul, k_v5, zb0_some, zb1_some, e282_0, e282_1, e282_4, e282_5, e282_6, e282_7, e282_8, e282_9, e282_10, e282_13, e282_14, e282_15, e282_17, e282_20, e282_21, e282_24, e282_26, e282_27, e282_28, e282_29, e282_32, e282_35, e282_37, e282_38, e282_39, e282_40, e282_43, e282_44, e282_45, e282_46, e282_47, e282_48, e282_51, e282_52, e282_53, e282_54, e282_55, e282_58, e282_59, e282_60, e282_61, e282_62, e282_63, e282_66, e282_67, e282_68, e282_69, e282_70, e282_73, e282_74, e282_75, e282_78, e282_80, e282_81, e282_84, e282_85, e282_86, e282_87, e282_88, e282_89, e282_90, e282_91, e282_92, e282_95, e282_96, e282_97, e282_98, e282_99, e282_102, e282_103, e282_104, e282_105, e282_106, e282_107, e282_110, e282_111, e282_112, e282_113, e282_114, e282_117, e282_118, m0, m1, m2, m3, hy, Int.reduceMul]
    · have c0 : bWhy T (zrG B) 60 h x n = 0 := by rw [e1, if_neg c]
      rw [if_neg c] at hy
      rw [hp f c0 hf, e2, if_pos c0]
      simp (disch := first | assumption | exact zrm0 | exact zrm1 _ | exact zrm2 _ _ | exact zrm3 _ _ _ | exact zrm4 _ _ _ _ | omega) only [m282, ↓k_dp, ↓k_dn, k_dp, k_dn, k_dT, k_dF, k_ip, k_in, if_true, if_false, ne_eq, not_true_eq_false, not_false_eq_true, Int.reduceAdd, zup_a, zup_e, zup_j, z32_id, k_al0, k_gR, k_il1, k_ic, k_iadd, k_ild, k_ildS, k_ildW, k_is2, k_icne, k_il2, k_icle, k_ri, k_v2r, k_pop, k_v5r, k_is3, k_il3, k_ifeq, k_imul, k_v5, zb0_some, zb1_some, e282_0, e282_1, e282_4, e282_5, e282_6, e282_7, e282_8, e282_9, e282_10, e282_13, e282_14, e282_15, e282_17, e282_20, e282_21, e282_24, e282_26, e282_27, e282_28, e282_29, e282_32, e282_35, e282_37, e282_38, e282_39, e282_40, e282_43, e282_44, e282_45, e282_46, e282_47, e282_48, e282_51, e282_52, e282_53, e282_54, e282_55, e282_58, e282_59, e282_60, e282_61, e282_62, e282_63, e282_66, e282_67, e282_68, e282_69, e282_70, e282_73, e282_74, e282_75, e282_78, e282_80, e282_81, e282_84, e282_85, e282_86, e282_87, e282_88, e282_89, e282_90, e282_91, e282_92, e282_95, e282_96, e282_97, e282_98, e282_99, e282_102, e282_103, e282_104, e282_105, e282_106, e282_107, e282_110, e282_111, e282_112, e282_113, e282_114, e282_117, e282_118, m0, m1, m2, m3, hy, hv]
  · obtain rfl : w = 70 := by omega
    have e1 : bWhy T (zrG B) 70 h q x = if 400 - T 0 10 < x then 1 else 0 := rfl
    have e2 : bNew T (zrG B) 70 h q x = tDays (zrG B) x.toNat T := rfl
    by_cases c : 400 - T 0 10 < x
    · have c0 : bWhy T (zrG B) 70 h q x = 1 := by rw [e1, if_pos c]
      rw [hno (by omega), if_neg (by omega), c0]
      simp (disch := first | assumption | exact zrm0 | exact zrm1 _ | exact zrm2 _ _ | exact zrm3 _ _ _ | exact zrm4 _ _ _ _ | omega) only [m282, ↓k_dp, ↓k_dn, k_dp, k_dn, k_dT, k_dF, k_ip, k_in, if_true, if_false, ne_eq, not_true_eq_false, not_false_eq_true, Int.reduceAdd, zup_a, zup_e, zup_j, z32_id, k_al0, k_gR, k_il1, k_ic, k_iadd, k_ild, k_ildS, k_ildW, k_is2, k_icne, k_il2, k_icle, k_ri, k_v2r, k_pop, k_v5r, k_is3, k_il3, k_ifeq, k_imul, k_v5, zb0_some, zb1_some, e282_0, e282_1, e282_4, e282_5, e282_6, e282_7, e282_8, e282_9, e282_10, e282_13, e282_14, e282_15, e282_17, e282_20, e282_21, e282_24, e282_26, e282_27, e282_28, e282_29, e282_32, e282_35, e282_37, e282_38, e282_39, e282_40, e282_43, e282_44, e282_45, e282_46, e282_47, e282_48, e282_51, e282_52, e282_53, e282_54, e282_55, e282_58, e282_59, e282_60, e282_61, e282_62, e282_63, e282_66, e282_67, e282_68, e282_69, e282_70, e282_73, e282_74, e282_75, e282_78, e282_80, e282_81, e282_84, e282_85, e282_86, e282_87, e282_88, e282_89, e282_90, e282_91, e282_92, e282_95, e282_96, e282_97, e282_98, e282_99, e282_102, e282_103, e282_104, e282_105, e282_106, e282_107, e282_110, e282_111, e282_112, e282_113, e282_114, e282_117, e282_118, m0, m1, rm_0t]
    · have c0 : bWhy T (zrG B) 70 h q x = 0 := by rw [e1, if_neg c]
      rw [hp 0 c0 rfl, e2, if_pos c0]
      have hx := r_passDays (d + 1) z0 x 0 (rm B sd f T) hG2 x.toNat (by rw [rm_0t]; unfold sMin; rw [if_neg c]; omega) h1 (by rw [rm_S, rm_G, hz]; exact hT)
      rw [rm_40, rm_78, rm_S, rm_G, hz, rm_rm, if_neg (by omega)] at hx
      simp (disch := first | assumption | exact zrm0 | exact zrm1 _ | exact zrm2 _ _ | exact zrm3 _ _ _ | exact zrm4 _ _ _ _ | omega) only [m282, ↓k_dp, ↓k_dn, k_dp, k_dn, k_dT, k_dF, k_ip, k_in, if_true, if_false, ne_eq, not_true_eq_false, not_false_eq_true, Int.reduceAdd, zup_a, zup_e, zup_j, z32_id, k_al0, k_gR, k_il1, k_ic, k_iadd, k_ild, k_ildS, k_ildW, k_is2, k_icne, k_il2, k_icle, k_ri, k_v2r, k_pop, k_v5r, k_is3, k_il3, k_ifeq, k_imul, k_v5, zb0_some, zb1_some, e282_0, e282_1, e282_4, e282_5, e282_6, e282_7, e282_8, e282_9, e282_10, e282_13, e282_14, e282_15, e282_17, e282_20, e282_21, e282_24, e282_26, e282_27, e282_28, e282_29, e282_32, e282_35, e282_37, e282_38, e282_39, e282_40, e282_43, e282_44, e282_45, e282_46, e282_47, e282_48, e282_51, e282_52, e282_53, e282_54, e282_55, e282_58, e282_59, e282_60, e282_61, e282_62, e282_63, e282_66, e282_67, e282_68, e282_69, e282_70, e282_73, e282_74, e282_75, e282_78, e282_80, e282_81, e282_84, e282_85, e282_86, e282_87, e282_88, e282_89, e282_90, e282_91, e282_92, e282_95, e282_96, e282_97, e282_98, e282_99, e282_102, e282_103, e282_104, e282_105, e282_106, e282_107, e282_110, e282_111, e282_112, e282_113, e282_114, e282_117, e282_118, m0, m1, rm_0t, hx]
