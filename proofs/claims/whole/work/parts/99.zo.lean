/-! what is said of which hand -/
theorem m110 (ph : Bool) (d : Nat) (p0 y0 p1 y1 p2 y2 : Int) (M : zM) : zEm ph (d + 1) 110 [(0, p0, y0), (0, p1, y1), (0, p2, y2)] M = zEv ph d 110 0 [(0, p0, y0), (0, p1, y1), (0, p2, y2)] [] M := rfl
theorem e110_0 (ph : Bool) (d : Nat) (L st : List zV) (M : zM) : zEv ph d 110 0 L st M = zcont ph d 110 (zstep ph (zEm ph d) 2 1 0 [1] L st M) := zEv_step rfl
theorem e110_1 (ph : Bool) (d : Nat) (L st : List zV) (M : zM) : zEv ph d 110 1 L st M = zcont ph d 110 (zstep ph (zEm ph d) 0 3 0 [60] L st M) := zEv_step rfl
theorem e110_3 (ph : Bool) (d : Nat) (L st : List zV) (M : zM) : zEv ph d 110 3 L st M = zcont ph d 110 (zstep ph (zEm ph d) 47 6 17 [] L st M) := zEv_step rfl
theorem e110_6 (ph : Bool) (d : Nat) (L st : List zV) (M : zM) : zEv ph d 110 6 L st M = zcont ph d 110 (zstep ph (zEm ph d) 2 7 0 [0] L st M) := zEv_step rfl
theorem e110_7 (ph : Bool) (d : Nat) (L st : List zV) (M : zM) : zEv ph d 110 7 L st M = zcont ph d 110 (zstep ph (zEm ph d) 2 8 0 [2] L st M) := zEv_step rfl
theorem e110_8 (ph : Bool) (d : Nat) (L st : List zV) (M : zM) : zEv ph d 110 8 L st M = zcont ph d 110 (zstep ph (zEm ph d) 49 11 15 [] L st M) := zEv_step rfl
theorem e110_11 (ph : Bool) (d : Nat) (L st : List zV) (M : zM) : zEv ph d 110 11 L st M = zcont ph d 110 (zstep ph (zEm ph d) 0 12 0 [1] L st M) := zEv_step rfl
theorem e110_12 (ph : Bool) (d : Nat) (L st : List zV) (M : zM) : zEv ph d 110 12 L st M = zcont ph d 110 (zstep ph (zEm ph d) 52 15 16 [] L st M) := zEv_step rfl
theorem e110_15 (ph : Bool) (d : Nat) (L st : List zV) (M : zM) : zEv ph d 110 15 L st M = zcont ph d 110 (zstep ph (zEm ph d) 0 16 0 [0] L st M) := zEv_step rfl
theorem e110_16 (ph : Bool) (d : Nat) (L st : List zV) (M : zM) : zEv ph d 110 16 L st M = zcont ph d 110 (zstep ph (zEm ph d) 80 17 0 [0, 1] L st M) := zEv_step rfl
theorem e110_17 (ph : Bool) (d : Nat) (L st : List zV) (M : zM) : zEv ph d 110 17 L st M = zcont ph d 110 (zstep ph (zEm ph d) 2 18 0 [1] L st M) := zEv_step rfl
theorem e110_18 (ph : Bool) (d : Nat) (L st : List zV) (M : zM) : zEv ph d 110 18 L st M = zcont ph d 110 (zstep ph (zEm ph d) 0 20 0 [62] L st M) := zEv_step rfl
theorem e110_20 (ph : Bool) (d : Nat) (L st : List zV) (M : zM) : zEv ph d 110 20 L st M = zcont ph d 110 (zstep ph (zEm ph d) 47 23 36 [] L st M) := zEv_step rfl
theorem e110_23 (ph : Bool) (d : Nat) (L st : List zV) (M : zM) : zEv ph d 110 23 L st M = zcont ph d 110 (zstep ph (zEm ph d) 2 24 0 [0] L st M) := zEv_step rfl
theorem e110_24 (ph : Bool) (d : Nat) (L st : List zV) (M : zM) : zEv ph d 110 24 L st M = zcont ph d 110 (zstep ph (zEm ph d) 2 25 0 [2] L st M) := zEv_step rfl
theorem e110_25 (ph : Bool) (d : Nat) (L st : List zV) (M : zM) : zEv ph d 110 25 L st M = zcont ph d 110 (zstep ph (zEm ph d) 51 28 32 [] L st M) := zEv_step rfl
theorem e110_28 (ph : Bool) (d : Nat) (L st : List zV) (M : zM) : zEv ph d 110 28 L st M = zcont ph d 110 (zstep ph (zEm ph d) 0 29 0 [1] L st M) := zEv_step rfl
theorem e110_29 (ph : Bool) (d : Nat) (L st : List zV) (M : zM) : zEv ph d 110 29 L st M = zcont ph d 110 (zstep ph (zEm ph d) 52 32 46 [] L st M) := zEv_step rfl
theorem e110_32 (ph : Bool) (d : Nat) (L st : List zV) (M : zM) : zEv ph d 110 32 L st M = zcont ph d 110 (zstep ph (zEm ph d) 0 33 0 [0] L st M) := zEv_step rfl
theorem e110_33 (ph : Bool) (d : Nat) (L st : List zV) (M : zM) : zEv ph d 110 33 L st M = zcont ph d 110 (zstep ph (zEm ph d) 52 36 46 [] L st M) := zEv_step rfl
theorem e110_36 (ph : Bool) (d : Nat) (L st : List zV) (M : zM) : zEv ph d 110 36 L st M = zcont ph d 110 (zstep ph (zEm ph d) 2 37 0 [0] L st M) := zEv_step rfl
theorem e110_37 (ph : Bool) (d : Nat) (L st : List zV) (M : zM) : zEv ph d 110 37 L st M = zcont ph d 110 (zstep ph (zEm ph d) 2 38 0 [2] L st M) := zEv_step rfl
theorem e110_38 (ph : Bool) (d : Nat) (L st : List zV) (M : zM) : zEv ph d 110 38 L st M = zcont ph d 110 (zstep ph (zEm ph d) 47 41 45 [] L st M) := zEv_step rfl
theorem e110_41 (ph : Bool) (d : Nat) (L st : List zV) (M : zM) : zEv ph d 110 41 L st M = zcont ph d 110 (zstep ph (zEm ph d) 0 42 0 [1] L st M) := zEv_step rfl
theorem e110_42 (ph : Bool) (d : Nat) (L st : List zV) (M : zM) : zEv ph d 110 42 L st M = zcont ph d 110 (zstep ph (zEm ph d) 52 45 46 [] L st M) := zEv_step rfl
theorem e110_45 (ph : Bool) (d : Nat) (L st : List zV) (M : zM) : zEv ph d 110 45 L st M = zcont ph d 110 (zstep ph (zEm ph d) 0 46 0 [0] L st M) := zEv_step rfl
theorem e110_46 (ph : Bool) (d : Nat) (L st : List zV) (M : zM) : zEv ph d 110 46 L st M = zcont ph d 110 (zstep ph (zEm ph d) 80 47 0 [0, 1] L st M) := zEv_step rfl
theorem m109 (ph : Bool) (d : Nat) (a x0 p0 y0 p1 y1 p2 y2 p3 y3 : Int) (M : zM) : zEm ph (d + 1) 109 [(25, a, x0), (28, p0, y0), (26, p1, y1), (0, p2, y2), (0, p3, y3)] M = zEv ph d 109 0 [(25, a, x0), (28, p0, y0), (26, p1, y1), (0, p2, y2), (0, p3, y3)] [] M := rfl
theorem e109_0 (ph : Bool) (d : Nat) (L st : List zV) (M : zM) : zEv ph d 109 0 L st M = zcont ph d 109 (zstep ph (zEm ph d) 4 1 0 [0] L st M) := zEv_step rfl
theorem e109_1 (ph : Bool) (d : Nat) (L st : List zV) (M : zM) : zEv ph d 109 1 L st M = zcont ph d 109 (zstep ph (zEm ph d) 62 4 0 [25, 0, 1, 10, 40] L st M) := zEv_step rfl
theorem e109_4 (ph : Bool) (d : Nat) (L st : List zV) (M : zM) : zEv ph d 109 4 L st M = zcont ph d 109 (zstep ph (zEm ph d) 2 5 0 [3] L st M) := zEv_step rfl
theorem e109_5 (ph : Bool) (d : Nat) (L st : List zV) (M : zM) : zEv ph d 109 5 L st M = zcont ph d 109 (zstep ph (zEm ph d) 85 6 0 [] L st M) := zEv_step rfl
theorem e109_6 (ph : Bool) (d : Nat) (a y : Int) (L st : List zV) (M : zM) : zEv ph d 109 6 L ((0, a, y) :: st) M = dite (a = 3) (fun _ => zEv ph d 109 52 L st M) (fun _ => dite (a = 4) (fun _ => zEv ph d 109 59 L st M) (fun _ => dite (a = 5) (fun _ => zEv ph d 109 66 L st M) (fun _ => dite (a = 6) (fun _ => zEv ph d 109 88 L st M) (fun _ => dite (a = 7) (fun _ => zEv ph d 109 101 L st M) (fun _ => dite (a = 8) (fun _ => zEv ph d 109 114 L st M) (fun _ => dite (a = 9) (fun _ => zEv ph d 109 137 L st M) (fun _ => dite (a = 10) (fun _ => zEv ph d 109 160 L st M) (fun _ => zEv ph d 109 178 L st M)))))))) := (zEv_step (op := 56) (nx := 52) (tg := 178) (r := [3, 52, 59, 66, 88, 101, 114, 137, 160]) rfl).trans (zts8 (fun q => zEv ph d 109 q L st M))
theorem e109_52 (ph : Bool) (d : Nat) (L st : List zV) (M : zM) : zEv ph d 109 52 L st M = zcont ph d 109 (zstep ph (zEm ph d) 4 53 0 [2] L st M) := zEv_step rfl
theorem e109_53 (ph : Bool) (d : Nat) (L st : List zV) (M : zM) : zEv ph d 109 53 L st M = zcont ph d 109 (zstep ph (zEm ph d) 2 55 0 [4] L st M) := zEv_step rfl
theorem e109_55 (ph : Bool) (d : Nat) (L st : List zV) (M : zM) : zEv ph d 109 55 L st M = zcont ph d 109 (zstep ph (zEm ph d) 70 58 114 [2, 1, 26] L st M) := zEv_step rfl
theorem e109_58 (ph : Bool) (d : Nat) (L st : List zV) (M : zM) : zEv ph d 109 58 L st M = zcont ph d 109 (zstep ph (zEm ph d) 80 59 0 [0, 1] L st M) := zEv_step rfl
theorem e109_59 (ph : Bool) (d : Nat) (L st : List zV) (M : zM) : zEv ph d 109 59 L st M = zcont ph d 109 (zstep ph (zEm ph d) 4 60 0 [1] L st M) := zEv_step rfl
theorem e109_60 (ph : Bool) (d : Nat) (L st : List zV) (M : zM) : zEv ph d 109 60 L st M = zcont ph d 109 (zstep ph (zEm ph d) 2 62 0 [4] L st M) := zEv_step rfl
theorem e109_62 (ph : Bool) (d : Nat) (L st : List zV) (M : zM) : zEv ph d 109 62 L st M = zcont ph d 109 (zstep ph (zEm ph d) 70 65 156 [2, 1, 28] L st M) := zEv_step rfl
theorem e109_65 (ph : Bool) (d : Nat) (L st : List zV) (M : zM) : zEv ph d 109 65 L st M = zcont ph d 109 (zstep ph (zEm ph d) 80 66 0 [0, 1] L st M) := zEv_step rfl
theorem e109_66 (ph : Bool) (d : Nat) (L st : List zV) (M : zM) : zEv ph d 109 66 L st M = zcont ph d 109 (zstep ph (zEm ph d) 4 67 0 [1] L st M) := zEv_step rfl
theorem e109_67 (ph : Bool) (d : Nat) (L st : List zV) (M : zM) : zEv ph d 109 67 L st M = zcont ph d 109 (zstep ph (zEm ph d) 62 70 0 [28, 3, 4, 10, 10] L st M) := zEv_step rfl
theorem e109_70 (ph : Bool) (d : Nat) (L st : List zV) (M : zM) : zEv ph d 109 70 L st M = zcont ph d 109 (zstep ph (zEm ph d) 2 72 0 [4] L st M) := zEv_step rfl
theorem e109_72 (ph : Bool) (d : Nat) (L st : List zV) (M : zM) : zEv ph d 109 72 L st M = zcont ph d 109 (zstep ph (zEm ph d) 85 73 0 [] L st M) := zEv_step rfl
theorem e109_73 (ph : Bool) (d : Nat) (L st : List zV) (M : zM) : zEv ph d 109 73 L st M = zcont ph d 109 (zstep ph (zEm ph d) 4 74 0 [0] L st M) := zEv_step rfl
theorem e109_74 (ph : Bool) (d : Nat) (L st : List zV) (M : zM) : zEv ph d 109 74 L st M = zcont ph d 109 (zstep ph (zEm ph d) 62 77 0 [25, 1, 2, 10, 40] L st M) := zEv_step rfl
theorem e109_77 (ph : Bool) (d : Nat) (L st : List zV) (M : zM) : zEv ph d 109 77 L st M = zcont ph d 109 (zstep ph (zEm ph d) 2 78 0 [3] L st M) := zEv_step rfl
theorem e109_78 (ph : Bool) (d : Nat) (L st : List zV) (M : zM) : zEv ph d 109 78 L st M = zcont ph d 109 (zstep ph (zEm ph d) 85 79 0 [] L st M) := zEv_step rfl
theorem e109_79 (ph : Bool) (d : Nat) (L st : List zV) (M : zM) : zEv ph d 109 79 L st M = zcont ph d 109 (zstep ph (zEm ph d) 47 82 86 [] L st M) := zEv_step rfl
theorem e109_82 (ph : Bool) (d : Nat) (L st : List zV) (M : zM) : zEv ph d 109 82 L st M = zcont ph d 109 (zstep ph (zEm ph d) 0 83 0 [1] L st M) := zEv_step rfl
theorem e109_83 (ph : Bool) (d : Nat) (L st : List zV) (M : zM) : zEv ph d 109 83 L st M = zcont ph d 109 (zstep ph (zEm ph d) 52 86 87 [] L st M) := zEv_step rfl
theorem e109_86 (ph : Bool) (d : Nat) (L st : List zV) (M : zM) : zEv ph d 109 86 L st M = zcont ph d 109 (zstep ph (zEm ph d) 0 87 0 [0] L st M) := zEv_step rfl
theorem e109_87 (ph : Bool) (d : Nat) (L st : List zV) (M : zM) : zEv ph d 109 87 L st M = zcont ph d 109 (zstep ph (zEm ph d) 80 88 0 [0, 1] L st M) := zEv_step rfl
theorem e109_88 (ph : Bool) (d : Nat) (L st : List zV) (M : zM) : zEv ph d 109 88 L st M = zcont ph d 109 (zstep ph (zEm ph d) 4 89 0 [2] L st M) := zEv_step rfl
theorem e109_89 (ph : Bool) (d : Nat) (L st : List zV) (M : zM) : zEv ph d 109 89 L st M = zcont ph d 109 (zstep ph (zEm ph d) 2 91 0 [4] L st M) := zEv_step rfl
theorem e109_91 (ph : Bool) (d : Nat) (L st : List zV) (M : zM) : zEv ph d 109 91 L st M = zcont ph d 109 (zstep ph (zEm ph d) 4 92 0 [0] L st M) := zEv_step rfl
theorem e109_92 (ph : Bool) (d : Nat) (L st : List zV) (M : zM) : zEv ph d 109 92 L st M = zcont ph d 109 (zstep ph (zEm ph d) 62 95 0 [25, 1, 2, 10, 40] L st M) := zEv_step rfl
theorem e109_95 (ph : Bool) (d : Nat) (L st : List zV) (M : zM) : zEv ph d 109 95 L st M = zcont ph d 109 (zstep ph (zEm ph d) 2 96 0 [3] L st M) := zEv_step rfl
theorem e109_96 (ph : Bool) (d : Nat) (L st : List zV) (M : zM) : zEv ph d 109 96 L st M = zcont ph d 109 (zstep ph (zEm ph d) 85 97 0 [] L st M) := zEv_step rfl
theorem e109_97 (ph : Bool) (d : Nat) (L st : List zV) (M : zM) : zEv ph d 109 97 L st M = zcont ph d 109 (zstep ph (zEm ph d) 70 100 115 [3, 1, 26] L st M) := zEv_step rfl
theorem e109_100 (ph : Bool) (d : Nat) (L st : List zV) (M : zM) : zEv ph d 109 100 L st M = zcont ph d 109 (zstep ph (zEm ph d) 80 101 0 [0, 1] L st M) := zEv_step rfl
theorem e109_101 (ph : Bool) (d : Nat) (L st : List zV) (M : zM) : zEv ph d 109 101 L st M = zcont ph d 109 (zstep ph (zEm ph d) 4 102 0 [2] L st M) := zEv_step rfl
theorem e109_102 (ph : Bool) (d : Nat) (L st : List zV) (M : zM) : zEv ph d 109 102 L st M = zcont ph d 109 (zstep ph (zEm ph d) 2 104 0 [4] L st M) := zEv_step rfl
theorem e109_104 (ph : Bool) (d : Nat) (L st : List zV) (M : zM) : zEv ph d 109 104 L st M = zcont ph d 109 (zstep ph (zEm ph d) 4 105 0 [0] L st M) := zEv_step rfl
theorem e109_105 (ph : Bool) (d : Nat) (L st : List zV) (M : zM) : zEv ph d 109 105 L st M = zcont ph d 109 (zstep ph (zEm ph d) 62 108 0 [25, 1, 2, 10, 40] L st M) := zEv_step rfl
theorem e109_108 (ph : Bool) (d : Nat) (L st : List zV) (M : zM) : zEv ph d 109 108 L st M = zcont ph d 109 (zstep ph (zEm ph d) 2 109 0 [3] L st M) := zEv_step rfl
theorem e109_109 (ph : Bool) (d : Nat) (L st : List zV) (M : zM) : zEv ph d 109 109 L st M = zcont ph d 109 (zstep ph (zEm ph d) 85 110 0 [] L st M) := zEv_step rfl
theorem e109_110 (ph : Bool) (d : Nat) (L st : List zV) (M : zM) : zEv ph d 109 110 L st M = zcont ph d 109 (zstep ph (zEm ph d) 70 113 116 [3, 1, 26] L st M) := zEv_step rfl
theorem e109_113 (ph : Bool) (d : Nat) (L st : List zV) (M : zM) : zEv ph d 109 113 L st M = zcont ph d 109 (zstep ph (zEm ph d) 80 114 0 [0, 1] L st M) := zEv_step rfl
theorem e109_114 (ph : Bool) (d : Nat) (L st : List zV) (M : zM) : zEv ph d 109 114 L st M = zcont ph d 109 (zstep ph (zEm ph d) 4 115 0 [2] L st M) := zEv_step rfl
theorem e109_115 (ph : Bool) (d : Nat) (L st : List zV) (M : zM) : zEv ph d 109 115 L st M = zcont ph d 109 (zstep ph (zEm ph d) 62 118 0 [26, 0, 1, 10, 10] L st M) := zEv_step rfl
theorem e109_118 (ph : Bool) (d : Nat) (L st : List zV) (M : zM) : zEv ph d 109 118 L st M = zcont ph d 109 (zstep ph (zEm ph d) 2 120 0 [4] L st M) := zEv_step rfl
theorem e109_120 (ph : Bool) (d : Nat) (L st : List zV) (M : zM) : zEv ph d 109 120 L st M = zcont ph d 109 (zstep ph (zEm ph d) 85 121 0 [] L st M) := zEv_step rfl
theorem e109_121 (ph : Bool) (d : Nat) (L st : List zV) (M : zM) : zEv ph d 109 121 L st M = zcont ph d 109 (zstep ph (zEm ph d) 4 122 0 [0] L st M) := zEv_step rfl
theorem e109_122 (ph : Bool) (d : Nat) (L st : List zV) (M : zM) : zEv ph d 109 122 L st M = zcont ph d 109 (zstep ph (zEm ph d) 62 125 0 [25, 2, 3, 10, 40] L st M) := zEv_step rfl
theorem e109_125 (ph : Bool) (d : Nat) (L st : List zV) (M : zM) : zEv ph d 109 125 L st M = zcont ph d 109 (zstep ph (zEm ph d) 2 126 0 [3] L st M) := zEv_step rfl
theorem e109_126 (ph : Bool) (d : Nat) (L st : List zV) (M : zM) : zEv ph d 109 126 L st M = zcont ph d 109 (zstep ph (zEm ph d) 85 127 0 [] L st M) := zEv_step rfl
theorem e109_127 (ph : Bool) (d : Nat) (L st : List zV) (M : zM) : zEv ph d 109 127 L st M = zcont ph d 109 (zstep ph (zEm ph d) 4 128 0 [0] L st M) := zEv_step rfl
theorem e109_128 (ph : Bool) (d : Nat) (L st : List zV) (M : zM) : zEv ph d 109 128 L st M = zcont ph d 109 (zstep ph (zEm ph d) 62 131 0 [25, 1, 2, 10, 40] L st M) := zEv_step rfl
theorem e109_131 (ph : Bool) (d : Nat) (L st : List zV) (M : zM) : zEv ph d 109 131 L st M = zcont ph d 109 (zstep ph (zEm ph d) 2 132 0 [3] L st M) := zEv_step rfl
theorem e109_132 (ph : Bool) (d : Nat) (L st : List zV) (M : zM) : zEv ph d 109 132 L st M = zcont ph d 109 (zstep ph (zEm ph d) 85 133 0 [] L st M) := zEv_step rfl
theorem e109_133 (ph : Bool) (d : Nat) (L st : List zV) (M : zM) : zEv ph d 109 133 L st M = zcont ph d 109 (zstep ph (zEm ph d) 70 136 110 [3, 1, -1] L st M) := zEv_step rfl
theorem e109_136 (ph : Bool) (d : Nat) (L st : List zV) (M : zM) : zEv ph d 109 136 L st M = zcont ph d 109 (zstep ph (zEm ph d) 80 137 0 [0, 1] L st M) := zEv_step rfl
theorem e109_137 (ph : Bool) (d : Nat) (L st : List zV) (M : zM) : zEv ph d 109 137 L st M = zcont ph d 109 (zstep ph (zEm ph d) 4 138 0 [2] L st M) := zEv_step rfl
theorem e109_138 (ph : Bool) (d : Nat) (L st : List zV) (M : zM) : zEv ph d 109 138 L st M = zcont ph d 109 (zstep ph (zEm ph d) 62 141 0 [26, 1, 2, 10, 10] L st M) := zEv_step rfl
theorem e109_141 (ph : Bool) (d : Nat) (L st : List zV) (M : zM) : zEv ph d 109 141 L st M = zcont ph d 109 (zstep ph (zEm ph d) 2 143 0 [4] L st M) := zEv_step rfl
theorem e109_143 (ph : Bool) (d : Nat) (L st : List zV) (M : zM) : zEv ph d 109 143 L st M = zcont ph d 109 (zstep ph (zEm ph d) 85 144 0 [] L st M) := zEv_step rfl
theorem e109_144 (ph : Bool) (d : Nat) (L st : List zV) (M : zM) : zEv ph d 109 144 L st M = zcont ph d 109 (zstep ph (zEm ph d) 4 145 0 [0] L st M) := zEv_step rfl
theorem e109_145 (ph : Bool) (d : Nat) (L st : List zV) (M : zM) : zEv ph d 109 145 L st M = zcont ph d 109 (zstep ph (zEm ph d) 62 148 0 [25, 2, 3, 10, 40] L st M) := zEv_step rfl
theorem e109_148 (ph : Bool) (d : Nat) (L st : List zV) (M : zM) : zEv ph d 109 148 L st M = zcont ph d 109 (zstep ph (zEm ph d) 2 149 0 [3] L st M) := zEv_step rfl
theorem e109_149 (ph : Bool) (d : Nat) (L st : List zV) (M : zM) : zEv ph d 109 149 L st M = zcont ph d 109 (zstep ph (zEm ph d) 85 150 0 [] L st M) := zEv_step rfl
theorem e109_150 (ph : Bool) (d : Nat) (L st : List zV) (M : zM) : zEv ph d 109 150 L st M = zcont ph d 109 (zstep ph (zEm ph d) 4 151 0 [0] L st M) := zEv_step rfl
theorem e109_151 (ph : Bool) (d : Nat) (L st : List zV) (M : zM) : zEv ph d 109 151 L st M = zcont ph d 109 (zstep ph (zEm ph d) 62 154 0 [25, 1, 2, 10, 40] L st M) := zEv_step rfl
theorem e109_154 (ph : Bool) (d : Nat) (L st : List zV) (M : zM) : zEv ph d 109 154 L st M = zcont ph d 109 (zstep ph (zEm ph d) 2 155 0 [3] L st M) := zEv_step rfl
theorem e109_155 (ph : Bool) (d : Nat) (L st : List zV) (M : zM) : zEv ph d 109 155 L st M = zcont ph d 109 (zstep ph (zEm ph d) 85 156 0 [] L st M) := zEv_step rfl
theorem e109_156 (ph : Bool) (d : Nat) (L st : List zV) (M : zM) : zEv ph d 109 156 L st M = zcont ph d 109 (zstep ph (zEm ph d) 70 159 110 [3, 1, -1] L st M) := zEv_step rfl
theorem e109_159 (ph : Bool) (d : Nat) (L st : List zV) (M : zM) : zEv ph d 109 159 L st M = zcont ph d 109 (zstep ph (zEm ph d) 80 160 0 [0, 1] L st M) := zEv_step rfl
theorem e109_160 (ph : Bool) (d : Nat) (L st : List zV) (M : zM) : zEv ph d 109 160 L st M = zcont ph d 109 (zstep ph (zEm ph d) 2 162 0 [4] L st M) := zEv_step rfl
theorem e109_162 (ph : Bool) (d : Nat) (L st : List zV) (M : zM) : zEv ph d 109 162 L st M = zcont ph d 109 (zstep ph (zEm ph d) 4 163 0 [0] L st M) := zEv_step rfl
theorem e109_163 (ph : Bool) (d : Nat) (L st : List zV) (M : zM) : zEv ph d 109 163 L st M = zcont ph d 109 (zstep ph (zEm ph d) 62 166 0 [25, 2, 3, 10, 40] L st M) := zEv_step rfl
theorem e109_166 (ph : Bool) (d : Nat) (L st : List zV) (M : zM) : zEv ph d 109 166 L st M = zcont ph d 109 (zstep ph (zEm ph d) 2 167 0 [3] L st M) := zEv_step rfl
theorem e109_167 (ph : Bool) (d : Nat) (L st : List zV) (M : zM) : zEv ph d 109 167 L st M = zcont ph d 109 (zstep ph (zEm ph d) 85 168 0 [] L st M) := zEv_step rfl
theorem e109_168 (ph : Bool) (d : Nat) (L st : List zV) (M : zM) : zEv ph d 109 168 L st M = zcont ph d 109 (zstep ph (zEm ph d) 4 169 0 [0] L st M) := zEv_step rfl
theorem e109_169 (ph : Bool) (d : Nat) (L st : List zV) (M : zM) : zEv ph d 109 169 L st M = zcont ph d 109 (zstep ph (zEm ph d) 62 172 0 [25, 1, 2, 10, 40] L st M) := zEv_step rfl
theorem e109_172 (ph : Bool) (d : Nat) (L st : List zV) (M : zM) : zEv ph d 109 172 L st M = zcont ph d 109 (zstep ph (zEm ph d) 2 173 0 [3] L st M) := zEv_step rfl
theorem e109_173 (ph : Bool) (d : Nat) (L st : List zV) (M : zM) : zEv ph d 109 173 L st M = zcont ph d 109 (zstep ph (zEm ph d) 85 174 0 [] L st M) := zEv_step rfl
theorem e109_174 (ph : Bool) (d : Nat) (L st : List zV) (M : zM) : zEv ph d 109 174 L st M = zcont ph d 109 (zstep ph (zEm ph d) 70 177 110 [3, 1, -1] L st M) := zEv_step rfl
theorem e109_177 (ph : Bool) (d : Nat) (L st : List zV) (M : zM) : zEv ph d 109 177 L st M = zcont ph d 109 (zstep ph (zEm ph d) 80 178 0 [0, 1] L st M) := zEv_step rfl
theorem e109_178 (ph : Bool) (d : Nat) (L st : List zV) (M : zM) : zEv ph d 109 178 L st M = zcont ph d 109 (zstep ph (zEm ph d) 0 179 0 [0] L st M) := zEv_step rfl
theorem e109_179 (ph : Bool) (d : Nat) (L st : List zV) (M : zM) : zEv ph d 109 179 L st M = zcont ph d 109 (zstep ph (zEm ph d) 80 180 0 [0, 1] L st M) := zEv_step rfl
theorem m108 (ph : Bool) (d : Nat) (a x0 p0 y0 p1 y1 p2 y2 : Int) (M : zM) : zEm ph (d + 1) 108 [(25, a, x0), (28, p0, y0), (26, p1, y1), (0, p2, y2)] M = zEv ph d 108 0 [(25, a, x0), (28, p0, y0), (26, p1, y1), (0, p2, y2), (3, 0, 0), (3, 0, 0)] [] M := rfl
theorem e108_0 (ph : Bool) (d : Nat) (L st : List zV) (M : zM) : zEv ph d 108 0 L st M = zcont ph d 108 (zstep ph (zEm ph d) 0 1 0 [0] L st M) := zEv_step rfl
theorem e108_1 (ph : Bool) (d : Nat) (L st : List zV) (M : zM) : zEv ph d 108 1 L st M = zcont ph d 108 (zstep ph (zEm ph d) 5 3 0 [4] L st M) := zEv_step rfl
theorem e108_3 (ph : Bool) (d : Nat) (L st : List zV) (M : zM) : zEv ph d 108 3 L st M = zcont ph d 108 (zstep ph (zEm ph d) 0 4 0 [0] L st M) := zEv_step rfl
theorem e108_4 (ph : Bool) (d : Nat) (L st : List zV) (M : zM) : zEv ph d 108 4 L st M = zcont ph d 108 (zstep ph (zEm ph d) 5 6 0 [5] L st M) := zEv_step rfl
theorem e108_6 (ph : Bool) (d : Nat) (L st : List zV) (M : zM) : zEv ph d 108 6 L st M = zcont ph d 108 (zstep ph (zEm ph d) 2 8 0 [5] L st M) := zEv_step rfl
theorem e108_8 (ph : Bool) (d : Nat) (L st : List zV) (M : zM) : zEv ph d 108 8 L st M = zcont ph d 108 (zstep ph (zEm ph d) 4 9 0 [1] L st M) := zEv_step rfl
theorem e108_9 (ph : Bool) (d : Nat) (L st : List zV) (M : zM) : zEv ph d 108 9 L st M = zcont ph d 108 (zstep ph (zEm ph d) 60 12 0 [28, 7] L st M) := zEv_step rfl
theorem e108_12 (ph : Bool) (d : Nat) (L st : List zV) (M : zM) : zEv ph d 108 12 L st M = zcont ph d 108 (zstep ph (zEm ph d) 49 15 42 [] L st M) := zEv_step rfl
theorem e108_15 (ph : Bool) (d : Nat) (L st : List zV) (M : zM) : zEv ph d 108 15 L st M = zcont ph d 108 (zstep ph (zEm ph d) 4 16 0 [0] L st M) := zEv_step rfl
theorem e108_16 (ph : Bool) (d : Nat) (L st : List zV) (M : zM) : zEv ph d 108 16 L st M = zcont ph d 108 (zstep ph (zEm ph d) 4 17 0 [1] L st M) := zEv_step rfl
theorem e108_17 (ph : Bool) (d : Nat) (L st : List zV) (M : zM) : zEv ph d 108 17 L st M = zcont ph d 108 (zstep ph (zEm ph d) 4 18 0 [2] L st M) := zEv_step rfl
theorem e108_18 (ph : Bool) (d : Nat) (L st : List zV) (M : zM) : zEv ph d 108 18 L st M = zcont ph d 108 (zstep ph (zEm ph d) 2 19 0 [3] L st M) := zEv_step rfl
theorem e108_19 (ph : Bool) (d : Nat) (L st : List zV) (M : zM) : zEv ph d 108 19 L st M = zcont ph d 108 (zstep ph (zEm ph d) 2 21 0 [5] L st M) := zEv_step rfl
theorem e108_21 (ph : Bool) (d : Nat) (L st : List zV) (M : zM) : zEv ph d 108 21 L st M = zcont ph d 108 (zstep ph (zEm ph d) 70 24 109 [5, 1, 25] L st M) := zEv_step rfl
theorem e108_24 (ph : Bool) (d : Nat) (L st : List zV) (M : zM) : zEv ph d 108 24 L st M = zcont ph d 108 (zstep ph (zEm ph d) 40 27 36 [] L st M) := zEv_step rfl
theorem e108_27 (ph : Bool) (d : Nat) (L st : List zV) (M : zM) : zEv ph d 108 27 L st M = zcont ph d 108 (zstep ph (zEm ph d) 2 29 0 [4] L st M) := zEv_step rfl
theorem e108_29 (ph : Bool) (d : Nat) (L st : List zV) (M : zM) : zEv ph d 108 29 L st M = zcont ph d 108 (zstep ph (zEm ph d) 0 30 0 [1] L st M) := zEv_step rfl
theorem e108_30 (ph : Bool) (d : Nat) (L st : List zV) (M : zM) : zEv ph d 108 30 L st M = zcont ph d 108 (zstep ph (zEm ph d) 2 32 0 [5] L st M) := zEv_step rfl
theorem e108_32 (ph : Bool) (d : Nat) (L st : List zV) (M : zM) : zEv ph d 108 32 L st M = zcont ph d 108 (zstep ph (zEm ph d) 19 33 0 [] L st M) := zEv_step rfl
theorem e108_33 (ph : Bool) (d : Nat) (L st : List zV) (M : zM) : zEv ph d 108 33 L st M = zcont ph d 108 (zstep ph (zEm ph d) 17 34 0 [] L st M) := zEv_step rfl
theorem e108_34 (ph : Bool) (d : Nat) (L st : List zV) (M : zM) : zEv ph d 108 34 L st M = zcont ph d 108 (zstep ph (zEm ph d) 5 36 0 [4] L st M) := zEv_step rfl
theorem e108_36 (ph : Bool) (d : Nat) (L st : List zV) (M : zM) : zEv ph d 108 36 L st M = zcont ph d 108 (zstep ph (zEm ph d) 8 39 0 [5, 1] L st M) := zEv_step rfl
theorem e108_39 (ph : Bool) (d : Nat) (L st : List zV) (M : zM) : zEv ph d 108 39 L st M = zcont ph d 108 (zstep ph (zEm ph d) 52 42 6 [] L st M) := zEv_step rfl
theorem e108_42 (ph : Bool) (d : Nat) (L st : List zV) (M : zM) : zEv ph d 108 42 L st M = zcont ph d 108 (zstep ph (zEm ph d) 2 44 0 [4] L st M) := zEv_step rfl
theorem e108_44 (ph : Bool) (d : Nat) (L st : List zV) (M : zM) : zEv ph d 108 44 L st M = zcont ph d 108 (zstep ph (zEm ph d) 80 45 0 [] L st M) := zEv_step rfl
theorem m107 (ph : Bool) (d : Nat) (a x0 p0 y0 p1 y1 : Int) (M : zM) : zEm ph (d + 1) 107 [(25, a, x0), (28, p0, y0), (26, p1, y1)] M = zEv ph d 107 0 [(25, a, x0), (28, p0, y0), (26, p1, y1), (3, 0, 0), (3, 0, 0), (3, 0, 0), (3, 0, 0)] [] M := rfl
theorem e107_0 (ph : Bool) (d : Nat) (L st : List zV) (M : zM) : zEv ph d 107 0 L st M = zcont ph d 107 (zstep ph (zEm ph d) 0 1 0 [0] L st M) := zEv_step rfl
theorem e107_1 (ph : Bool) (d : Nat) (L st : List zV) (M : zM) : zEv ph d 107 1 L st M = zcont ph d 107 (zstep ph (zEm ph d) 5 2 0 [3] L st M) := zEv_step rfl
theorem e107_2 (ph : Bool) (d : Nat) (L st : List zV) (M : zM) : zEv ph d 107 2 L st M = zcont ph d 107 (zstep ph (zEm ph d) 0 3 0 [0] L st M) := zEv_step rfl
theorem e107_3 (ph : Bool) (d : Nat) (L st : List zV) (M : zM) : zEv ph d 107 3 L st M = zcont ph d 107 (zstep ph (zEm ph d) 5 5 0 [4] L st M) := zEv_step rfl
theorem e107_5 (ph : Bool) (d : Nat) (L st : List zV) (M : zM) : zEv ph d 107 5 L st M = zcont ph d 107 (zstep ph (zEm ph d) 2 7 0 [4] L st M) := zEv_step rfl
theorem e107_7 (ph : Bool) (d : Nat) (L st : List zV) (M : zM) : zEv ph d 107 7 L st M = zcont ph d 107 (zstep ph (zEm ph d) 4 8 0 [0] L st M) := zEv_step rfl
theorem e107_8 (ph : Bool) (d : Nat) (L st : List zV) (M : zM) : zEv ph d 107 8 L st M = zcont ph d 107 (zstep ph (zEm ph d) 60 11 0 [25, 4] L st M) := zEv_step rfl
theorem e107_11 (ph : Bool) (d : Nat) (L st : List zV) (M : zM) : zEv ph d 107 11 L st M = zcont ph d 107 (zstep ph (zEm ph d) 49 14 180 [] L st M) := zEv_step rfl
theorem e107_14 (ph : Bool) (d : Nat) (L st : List zV) (M : zM) : zEv ph d 107 14 L st M = zcont ph d 107 (zstep ph (zEm ph d) 4 15 0 [0] L st M) := zEv_step rfl
theorem e107_15 (ph : Bool) (d : Nat) (L st : List zV) (M : zM) : zEv ph d 107 15 L st M = zcont ph d 107 (zstep ph (zEm ph d) 62 18 0 [25, 0, 1, 10, 40] L st M) := zEv_step rfl
theorem e107_18 (ph : Bool) (d : Nat) (L st : List zV) (M : zM) : zEv ph d 107 18 L st M = zcont ph d 107 (zstep ph (zEm ph d) 2 20 0 [4] L st M) := zEv_step rfl
theorem e107_20 (ph : Bool) (d : Nat) (L st : List zV) (M : zM) : zEv ph d 107 20 L st M = zcont ph d 107 (zstep ph (zEm ph d) 85 21 0 [] L st M) := zEv_step rfl
theorem e107_21 (ph : Bool) (d : Nat) (L st : List zV) (M : zM) : zEv ph d 107 21 L st M = zcont ph d 107 (zstep ph (zEm ph d) 40 24 35 [] L st M) := zEv_step rfl
theorem e107_24 (ph : Bool) (d : Nat) (L st : List zV) (M : zM) : zEv ph d 107 24 L st M = zcont ph d 107 (zstep ph (zEm ph d) 4 25 0 [0] L st M) := zEv_step rfl
theorem e107_25 (ph : Bool) (d : Nat) (L st : List zV) (M : zM) : zEv ph d 107 25 L st M = zcont ph d 107 (zstep ph (zEm ph d) 62 28 0 [25, 0, 1, 10, 40] L st M) := zEv_step rfl
theorem e107_28 (ph : Bool) (d : Nat) (L st : List zV) (M : zM) : zEv ph d 107 28 L st M = zcont ph d 107 (zstep ph (zEm ph d) 2 30 0 [4] L st M) := zEv_step rfl
theorem e107_30 (ph : Bool) (d : Nat) (L st : List zV) (M : zM) : zEv ph d 107 30 L st M = zcont ph d 107 (zstep ph (zEm ph d) 85 31 0 [] L st M) := zEv_step rfl
theorem e107_31 (ph : Bool) (d : Nat) (L st : List zV) (M : zM) : zEv ph d 107 31 L st M = zcont ph d 107 (zstep ph (zEm ph d) 0 32 0 [1] L st M) := zEv_step rfl
theorem e107_32 (ph : Bool) (d : Nat) (L st : List zV) (M : zM) : zEv ph d 107 32 L st M = zcont ph d 107 (zstep ph (zEm ph d) 47 35 107 [] L st M) := zEv_step rfl
theorem e107_35 (ph : Bool) (d : Nat) (L st : List zV) (M : zM) : zEv ph d 107 35 L st M = zcont ph d 107 (zstep ph (zEm ph d) 2 36 0 [3] L st M) := zEv_step rfl
theorem e107_36 (ph : Bool) (d : Nat) (L st : List zV) (M : zM) : zEv ph d 107 36 L st M = zcont ph d 107 (zstep ph (zEm ph d) 0 37 0 [2] L st M) := zEv_step rfl
theorem e107_37 (ph : Bool) (d : Nat) (L st : List zV) (M : zM) : zEv ph d 107 37 L st M = zcont ph d 107 (zstep ph (zEm ph d) 49 40 42 [] L st M) := zEv_step rfl
theorem e107_40 (ph : Bool) (d : Nat) (L st : List zV) (M : zM) : zEv ph d 107 40 L st M = zcont ph d 107 (zstep ph (zEm ph d) 0 41 0 [0] L st M) := zEv_step rfl
theorem e107_41 (ph : Bool) (d : Nat) (L st : List zV) (M : zM) : zEv ph d 107 41 L st M = zcont ph d 107 (zstep ph (zEm ph d) 80 42 0 [] L st M) := zEv_step rfl
theorem e107_42 (ph : Bool) (d : Nat) (L st : List zV) (M : zM) : zEv ph d 107 42 L st M = zcont ph d 107 (zstep ph (zEm ph d) 8 45 0 [3, -1] L st M) := zEv_step rfl
theorem e107_45 (ph : Bool) (d : Nat) (L st : List zV) (M : zM) : zEv ph d 107 45 L st M = zcont ph d 107 (zstep ph (zEm ph d) 4 46 0 [0] L st M) := zEv_step rfl
theorem e107_46 (ph : Bool) (d : Nat) (L st : List zV) (M : zM) : zEv ph d 107 46 L st M = zcont ph d 107 (zstep ph (zEm ph d) 62 49 0 [25, 3, 4, 10, 40] L st M) := zEv_step rfl
theorem e107_49 (ph : Bool) (d : Nat) (L st : List zV) (M : zM) : zEv ph d 107 49 L st M = zcont ph d 107 (zstep ph (zEm ph d) 2 50 0 [3] L st M) := zEv_step rfl
theorem e107_50 (ph : Bool) (d : Nat) (L st : List zV) (M : zM) : zEv ph d 107 50 L st M = zcont ph d 107 (zstep ph (zEm ph d) 85 51 0 [] L st M) := zEv_step rfl
theorem e107_51 (ph : Bool) (d : Nat) (L st : List zV) (M : zM) : zEv ph d 107 51 L st M = zcont ph d 107 (zstep ph (zEm ph d) 4 52 0 [0] L st M) := zEv_step rfl
theorem e107_52 (ph : Bool) (d : Nat) (L st : List zV) (M : zM) : zEv ph d 107 52 L st M = zcont ph d 107 (zstep ph (zEm ph d) 62 55 0 [25, 3, 4, 10, 40] L st M) := zEv_step rfl
theorem e107_55 (ph : Bool) (d : Nat) (L st : List zV) (M : zM) : zEv ph d 107 55 L st M = zcont ph d 107 (zstep ph (zEm ph d) 2 56 0 [3] L st M) := zEv_step rfl
theorem e107_56 (ph : Bool) (d : Nat) (L st : List zV) (M : zM) : zEv ph d 107 56 L st M = zcont ph d 107 (zstep ph (zEm ph d) 0 57 0 [1] L st M) := zEv_step rfl
theorem e107_57 (ph : Bool) (d : Nat) (L st : List zV) (M : zM) : zEv ph d 107 57 L st M = zcont ph d 107 (zstep ph (zEm ph d) 11 58 0 [] L st M) := zEv_step rfl
theorem e107_58 (ph : Bool) (d : Nat) (L st : List zV) (M : zM) : zEv ph d 107 58 L st M = zcont ph d 107 (zstep ph (zEm ph d) 85 59 0 [] L st M) := zEv_step rfl
theorem e107_59 (ph : Bool) (d : Nat) (L st : List zV) (M : zM) : zEv ph d 107 59 L st M = zcont ph d 107 (zstep ph (zEm ph d) 16 60 0 [] L st M) := zEv_step rfl
theorem e107_60 (ph : Bool) (d : Nat) (L st : List zV) (M : zM) : zEv ph d 107 60 L st M = zcont ph d 107 (zstep ph (zEm ph d) 5 62 0 [5] L st M) := zEv_step rfl
theorem e107_62 (ph : Bool) (d : Nat) (L st : List zV) (M : zM) : zEv ph d 107 62 L st M = zcont ph d 107 (zstep ph (zEm ph d) 4 63 0 [0] L st M) := zEv_step rfl
theorem e107_63 (ph : Bool) (d : Nat) (L st : List zV) (M : zM) : zEv ph d 107 63 L st M = zcont ph d 107 (zstep ph (zEm ph d) 62 66 0 [25, 3, 4, 10, 40] L st M) := zEv_step rfl
theorem e107_66 (ph : Bool) (d : Nat) (L st : List zV) (M : zM) : zEv ph d 107 66 L st M = zcont ph d 107 (zstep ph (zEm ph d) 2 67 0 [3] L st M) := zEv_step rfl
theorem e107_67 (ph : Bool) (d : Nat) (L st : List zV) (M : zM) : zEv ph d 107 67 L st M = zcont ph d 107 (zstep ph (zEm ph d) 85 68 0 [] L st M) := zEv_step rfl
theorem e107_68 (ph : Bool) (d : Nat) (L st : List zV) (M : zM) : zEv ph d 107 68 L st M = zcont ph d 107 (zstep ph (zEm ph d) 4 69 0 [0] L st M) := zEv_step rfl
theorem e107_69 (ph : Bool) (d : Nat) (L st : List zV) (M : zM) : zEv ph d 107 69 L st M = zcont ph d 107 (zstep ph (zEm ph d) 62 72 0 [25, 3, 4, 10, 40] L st M) := zEv_step rfl
theorem e107_72 (ph : Bool) (d : Nat) (L st : List zV) (M : zM) : zEv ph d 107 72 L st M = zcont ph d 107 (zstep ph (zEm ph d) 2 73 0 [3] L st M) := zEv_step rfl
theorem e107_73 (ph : Bool) (d : Nat) (L st : List zV) (M : zM) : zEv ph d 107 73 L st M = zcont ph d 107 (zstep ph (zEm ph d) 0 74 0 [1] L st M) := zEv_step rfl
theorem e107_74 (ph : Bool) (d : Nat) (L st : List zV) (M : zM) : zEv ph d 107 74 L st M = zcont ph d 107 (zstep ph (zEm ph d) 11 75 0 [] L st M) := zEv_step rfl
theorem e107_75 (ph : Bool) (d : Nat) (L st : List zV) (M : zM) : zEv ph d 107 75 L st M = zcont ph d 107 (zstep ph (zEm ph d) 85 76 0 [] L st M) := zEv_step rfl
theorem e107_76 (ph : Bool) (d : Nat) (L st : List zV) (M : zM) : zEv ph d 107 76 L st M = zcont ph d 107 (zstep ph (zEm ph d) 17 77 0 [] L st M) := zEv_step rfl
theorem e107_77 (ph : Bool) (d : Nat) (L st : List zV) (M : zM) : zEv ph d 107 77 L st M = zcont ph d 107 (zstep ph (zEm ph d) 5 79 0 [6] L st M) := zEv_step rfl
theorem e107_79 (ph : Bool) (d : Nat) (L st : List zV) (M : zM) : zEv ph d 107 79 L st M = zcont ph d 107 (zstep ph (zEm ph d) 4 80 0 [0] L st M) := zEv_step rfl
theorem e107_80 (ph : Bool) (d : Nat) (L st : List zV) (M : zM) : zEv ph d 107 80 L st M = zcont ph d 107 (zstep ph (zEm ph d) 62 83 0 [25, 3, 4, 10, 40] L st M) := zEv_step rfl
theorem e107_83 (ph : Bool) (d : Nat) (L st : List zV) (M : zM) : zEv ph d 107 83 L st M = zcont ph d 107 (zstep ph (zEm ph d) 2 84 0 [3] L st M) := zEv_step rfl
theorem e107_84 (ph : Bool) (d : Nat) (L st : List zV) (M : zM) : zEv ph d 107 84 L st M = zcont ph d 107 (zstep ph (zEm ph d) 0 85 0 [1] L st M) := zEv_step rfl
theorem e107_85 (ph : Bool) (d : Nat) (L st : List zV) (M : zM) : zEv ph d 107 85 L st M = zcont ph d 107 (zstep ph (zEm ph d) 11 86 0 [] L st M) := zEv_step rfl
theorem e107_86 (ph : Bool) (d : Nat) (L st : List zV) (M : zM) : zEv ph d 107 86 L st M = zcont ph d 107 (zstep ph (zEm ph d) 4 87 0 [0] L st M) := zEv_step rfl
theorem e107_87 (ph : Bool) (d : Nat) (L st : List zV) (M : zM) : zEv ph d 107 87 L st M = zcont ph d 107 (zstep ph (zEm ph d) 62 90 0 [25, 0, 1, 10, 40] L st M) := zEv_step rfl
theorem e107_90 (ph : Bool) (d : Nat) (L st : List zV) (M : zM) : zEv ph d 107 90 L st M = zcont ph d 107 (zstep ph (zEm ph d) 2 92 0 [4] L st M) := zEv_step rfl
theorem e107_92 (ph : Bool) (d : Nat) (L st : List zV) (M : zM) : zEv ph d 107 92 L st M = zcont ph d 107 (zstep ph (zEm ph d) 85 93 0 [] L st M) := zEv_step rfl
theorem e107_93 (ph : Bool) (d : Nat) (L st : List zV) (M : zM) : zEv ph d 107 93 L st M = zcont ph d 107 (zstep ph (zEm ph d) 41 96 101 [] L st M) := zEv_step rfl
theorem e107_96 (ph : Bool) (d : Nat) (L st : List zV) (M : zM) : zEv ph d 107 96 L st M = zcont ph d 107 (zstep ph (zEm ph d) 2 98 0 [6] L st M) := zEv_step rfl
theorem e107_98 (ph : Bool) (d : Nat) (L st : List zV) (M : zM) : zEv ph d 107 98 L st M = zcont ph d 107 (zstep ph (zEm ph d) 52 101 103 [] L st M) := zEv_step rfl
theorem e107_101 (ph : Bool) (d : Nat) (L st : List zV) (M : zM) : zEv ph d 107 101 L st M = zcont ph d 107 (zstep ph (zEm ph d) 2 103 0 [5] L st M) := zEv_step rfl
theorem e107_103 (ph : Bool) (d : Nat) (L st : List zV) (M : zM) : zEv ph d 107 103 L st M = zcont ph d 107 (zstep ph (zEm ph d) 89 104 0 [] L st M) := zEv_step rfl
theorem e107_104 (ph : Bool) (d : Nat) (L st : List zV) (M : zM) : zEv ph d 107 104 L st M = zcont ph d 107 (zstep ph (zEm ph d) 52 107 174 [] L st M) := zEv_step rfl
theorem e107_107 (ph : Bool) (d : Nat) (L st : List zV) (M : zM) : zEv ph d 107 107 L st M = zcont ph d 107 (zstep ph (zEm ph d) 4 108 0 [0] L st M) := zEv_step rfl
theorem e107_108 (ph : Bool) (d : Nat) (L st : List zV) (M : zM) : zEv ph d 107 108 L st M = zcont ph d 107 (zstep ph (zEm ph d) 62 111 0 [25, 0, 1, 10, 40] L st M) := zEv_step rfl
theorem e107_111 (ph : Bool) (d : Nat) (L st : List zV) (M : zM) : zEv ph d 107 111 L st M = zcont ph d 107 (zstep ph (zEm ph d) 2 113 0 [4] L st M) := zEv_step rfl
theorem e107_113 (ph : Bool) (d : Nat) (L st : List zV) (M : zM) : zEv ph d 107 113 L st M = zcont ph d 107 (zstep ph (zEm ph d) 85 114 0 [] L st M) := zEv_step rfl
theorem e107_114 (ph : Bool) (d : Nat) (L st : List zV) (M : zM) : zEv ph d 107 114 L st M = zcont ph d 107 (zstep ph (zEm ph d) 0 115 0 [2] L st M) := zEv_step rfl
theorem e107_115 (ph : Bool) (d : Nat) (L st : List zV) (M : zM) : zEv ph d 107 115 L st M = zcont ph d 107 (zstep ph (zEm ph d) 47 118 151 [] L st M) := zEv_step rfl
theorem e107_118 (ph : Bool) (d : Nat) (L st : List zV) (M : zM) : zEv ph d 107 118 L st M = zcont ph d 107 (zstep ph (zEm ph d) 2 119 0 [3] L st M) := zEv_step rfl
theorem e107_119 (ph : Bool) (d : Nat) (L st : List zV) (M : zM) : zEv ph d 107 119 L st M = zcont ph d 107 (zstep ph (zEm ph d) 0 120 0 [1] L st M) := zEv_step rfl
theorem e107_120 (ph : Bool) (d : Nat) (L st : List zV) (M : zM) : zEv ph d 107 120 L st M = zcont ph d 107 (zstep ph (zEm ph d) 49 123 125 [] L st M) := zEv_step rfl
theorem e107_123 (ph : Bool) (d : Nat) (L st : List zV) (M : zM) : zEv ph d 107 123 L st M = zcont ph d 107 (zstep ph (zEm ph d) 0 124 0 [0] L st M) := zEv_step rfl
theorem e107_124 (ph : Bool) (d : Nat) (L st : List zV) (M : zM) : zEv ph d 107 124 L st M = zcont ph d 107 (zstep ph (zEm ph d) 80 125 0 [] L st M) := zEv_step rfl
theorem e107_125 (ph : Bool) (d : Nat) (L st : List zV) (M : zM) : zEv ph d 107 125 L st M = zcont ph d 107 (zstep ph (zEm ph d) 4 126 0 [0] L st M) := zEv_step rfl
theorem e107_126 (ph : Bool) (d : Nat) (L st : List zV) (M : zM) : zEv ph d 107 126 L st M = zcont ph d 107 (zstep ph (zEm ph d) 62 129 0 [25, 3, 4, 10, 40] L st M) := zEv_step rfl
theorem e107_129 (ph : Bool) (d : Nat) (L st : List zV) (M : zM) : zEv ph d 107 129 L st M = zcont ph d 107 (zstep ph (zEm ph d) 2 130 0 [3] L st M) := zEv_step rfl
theorem e107_130 (ph : Bool) (d : Nat) (L st : List zV) (M : zM) : zEv ph d 107 130 L st M = zcont ph d 107 (zstep ph (zEm ph d) 0 131 0 [1] L st M) := zEv_step rfl
theorem e107_131 (ph : Bool) (d : Nat) (L st : List zV) (M : zM) : zEv ph d 107 131 L st M = zcont ph d 107 (zstep ph (zEm ph d) 11 132 0 [] L st M) := zEv_step rfl
theorem e107_132 (ph : Bool) (d : Nat) (L st : List zV) (M : zM) : zEv ph d 107 132 L st M = zcont ph d 107 (zstep ph (zEm ph d) 4 133 0 [1] L st M) := zEv_step rfl
theorem e107_133 (ph : Bool) (d : Nat) (L st : List zV) (M : zM) : zEv ph d 107 133 L st M = zcont ph d 107 (zstep ph (zEm ph d) 70 136 158 [1, 1, 28] L st M) := zEv_step rfl
theorem e107_136 (ph : Bool) (d : Nat) (L st : List zV) (M : zM) : zEv ph d 107 136 L st M = zcont ph d 107 (zstep ph (zEm ph d) 4 137 0 [0] L st M) := zEv_step rfl
theorem e107_137 (ph : Bool) (d : Nat) (L st : List zV) (M : zM) : zEv ph d 107 137 L st M = zcont ph d 107 (zstep ph (zEm ph d) 62 140 0 [25, 3, 4, 10, 40] L st M) := zEv_step rfl
theorem e107_140 (ph : Bool) (d : Nat) (L st : List zV) (M : zM) : zEv ph d 107 140 L st M = zcont ph d 107 (zstep ph (zEm ph d) 2 141 0 [3] L st M) := zEv_step rfl
theorem e107_141 (ph : Bool) (d : Nat) (L st : List zV) (M : zM) : zEv ph d 107 141 L st M = zcont ph d 107 (zstep ph (zEm ph d) 0 142 0 [1] L st M) := zEv_step rfl
theorem e107_142 (ph : Bool) (d : Nat) (L st : List zV) (M : zM) : zEv ph d 107 142 L st M = zcont ph d 107 (zstep ph (zEm ph d) 11 143 0 [] L st M) := zEv_step rfl
theorem e107_143 (ph : Bool) (d : Nat) (L st : List zV) (M : zM) : zEv ph d 107 143 L st M = zcont ph d 107 (zstep ph (zEm ph d) 85 144 0 [] L st M) := zEv_step rfl
theorem e107_144 (ph : Bool) (d : Nat) (L st : List zV) (M : zM) : zEv ph d 107 144 L st M = zcont ph d 107 (zstep ph (zEm ph d) 0 145 0 [-1] L st M) := zEv_step rfl
theorem e107_145 (ph : Bool) (d : Nat) (L st : List zV) (M : zM) : zEv ph d 107 145 L st M = zcont ph d 107 (zstep ph (zEm ph d) 18 146 0 [] L st M) := zEv_step rfl
theorem e107_146 (ph : Bool) (d : Nat) (L st : List zV) (M : zM) : zEv ph d 107 146 L st M = zcont ph d 107 (zstep ph (zEm ph d) 16 147 0 [] L st M) := zEv_step rfl
theorem e107_147 (ph : Bool) (d : Nat) (L st : List zV) (M : zM) : zEv ph d 107 147 L st M = zcont ph d 107 (zstep ph (zEm ph d) 89 148 0 [] L st M) := zEv_step rfl
theorem e107_148 (ph : Bool) (d : Nat) (L st : List zV) (M : zM) : zEv ph d 107 148 L st M = zcont ph d 107 (zstep ph (zEm ph d) 52 151 174 [] L st M) := zEv_step rfl
theorem e107_151 (ph : Bool) (d : Nat) (L st : List zV) (M : zM) : zEv ph d 107 151 L st M = zcont ph d 107 (zstep ph (zEm ph d) 2 152 0 [3] L st M) := zEv_step rfl
theorem e107_152 (ph : Bool) (d : Nat) (L st : List zV) (M : zM) : zEv ph d 107 152 L st M = zcont ph d 107 (zstep ph (zEm ph d) 0 154 0 [40] L st M) := zEv_step rfl
theorem e107_154 (ph : Bool) (d : Nat) (L st : List zV) (M : zM) : zEv ph d 107 154 L st M = zcont ph d 107 (zstep ph (zEm ph d) 49 157 174 [] L st M) := zEv_step rfl
theorem e107_157 (ph : Bool) (d : Nat) (L st : List zV) (M : zM) : zEv ph d 107 157 L st M = zcont ph d 107 (zstep ph (zEm ph d) 4 158 0 [0] L st M) := zEv_step rfl
theorem e107_158 (ph : Bool) (d : Nat) (L st : List zV) (M : zM) : zEv ph d 107 158 L st M = zcont ph d 107 (zstep ph (zEm ph d) 62 161 0 [25, 3, 4, 10, 40] L st M) := zEv_step rfl
theorem e107_161 (ph : Bool) (d : Nat) (L st : List zV) (M : zM) : zEv ph d 107 161 L st M = zcont ph d 107 (zstep ph (zEm ph d) 2 162 0 [3] L st M) := zEv_step rfl
theorem e107_162 (ph : Bool) (d : Nat) (L st : List zV) (M : zM) : zEv ph d 107 162 L st M = zcont ph d 107 (zstep ph (zEm ph d) 4 163 0 [0] L st M) := zEv_step rfl
theorem e107_163 (ph : Bool) (d : Nat) (L st : List zV) (M : zM) : zEv ph d 107 163 L st M = zcont ph d 107 (zstep ph (zEm ph d) 4 164 0 [1] L st M) := zEv_step rfl
theorem e107_164 (ph : Bool) (d : Nat) (L st : List zV) (M : zM) : zEv ph d 107 164 L st M = zcont ph d 107 (zstep ph (zEm ph d) 4 165 0 [2] L st M) := zEv_step rfl
theorem e107_165 (ph : Bool) (d : Nat) (L st : List zV) (M : zM) : zEv ph d 107 165 L st M = zcont ph d 107 (zstep ph (zEm ph d) 2 167 0 [4] L st M) := zEv_step rfl
theorem e107_167 (ph : Bool) (d : Nat) (L st : List zV) (M : zM) : zEv ph d 107 167 L st M = zcont ph d 107 (zstep ph (zEm ph d) 70 170 108 [4, 1, 25] L st M) := zEv_step rfl
theorem e107_170 (ph : Bool) (d : Nat) (L st : List zV) (M : zM) : zEv ph d 107 170 L st M = zcont ph d 107 (zstep ph (zEm ph d) 89 171 0 [] L st M) := zEv_step rfl
theorem e107_171 (ph : Bool) (d : Nat) (L st : List zV) (M : zM) : zEv ph d 107 171 L st M = zcont ph d 107 (zstep ph (zEm ph d) 8 174 0 [3, 1] L st M) := zEv_step rfl
theorem e107_174 (ph : Bool) (d : Nat) (L st : List zV) (M : zM) : zEv ph d 107 174 L st M = zcont ph d 107 (zstep ph (zEm ph d) 8 177 0 [4, 1] L st M) := zEv_step rfl
theorem e107_177 (ph : Bool) (d : Nat) (L st : List zV) (M : zM) : zEv ph d 107 177 L st M = zcont ph d 107 (zstep ph (zEm ph d) 52 180 5 [] L st M) := zEv_step rfl
theorem e107_180 (ph : Bool) (d : Nat) (L st : List zV) (M : zM) : zEv ph d 107 180 L st M = zcont ph d 107 (zstep ph (zEm ph d) 2 181 0 [3] L st M) := zEv_step rfl
theorem e107_181 (ph : Bool) (d : Nat) (L st : List zV) (M : zM) : zEv ph d 107 181 L st M = zcont ph d 107 (zstep ph (zEm ph d) 0 182 0 [1] L st M) := zEv_step rfl
theorem e107_182 (ph : Bool) (d : Nat) (L st : List zV) (M : zM) : zEv ph d 107 182 L st M = zcont ph d 107 (zstep ph (zEm ph d) 47 185 194 [] L st M) := zEv_step rfl
theorem e107_185 (ph : Bool) (d : Nat) (L st : List zV) (M : zM) : zEv ph d 107 185 L st M = zcont ph d 107 (zstep ph (zEm ph d) 4 186 0 [0] L st M) := zEv_step rfl
theorem e107_186 (ph : Bool) (d : Nat) (L st : List zV) (M : zM) : zEv ph d 107 186 L st M = zcont ph d 107 (zstep ph (zEm ph d) 62 189 0 [25, 3, 4, 10, 40] L st M) := zEv_step rfl
theorem e107_189 (ph : Bool) (d : Nat) (L st : List zV) (M : zM) : zEv ph d 107 189 L st M = zcont ph d 107 (zstep ph (zEm ph d) 0 190 0 [0] L st M) := zEv_step rfl
theorem e107_190 (ph : Bool) (d : Nat) (L st : List zV) (M : zM) : zEv ph d 107 190 L st M = zcont ph d 107 (zstep ph (zEm ph d) 85 191 0 [] L st M) := zEv_step rfl
theorem e107_191 (ph : Bool) (d : Nat) (L st : List zV) (M : zM) : zEv ph d 107 191 L st M = zcont ph d 107 (zstep ph (zEm ph d) 52 194 195 [] L st M) := zEv_step rfl
theorem e107_194 (ph : Bool) (d : Nat) (L st : List zV) (M : zM) : zEv ph d 107 194 L st M = zcont ph d 107 (zstep ph (zEm ph d) 0 195 0 [0] L st M) := zEv_step rfl
theorem e107_195 (ph : Bool) (d : Nat) (L st : List zV) (M : zM) : zEv ph d 107 195 L st M = zcont ph d 107 (zstep ph (zEm ph d) 80 196 0 [] L st M) := zEv_step rfl
theorem m42 (ph : Bool) (d : Nat) (a x0 p0 y0 : Int) (M : zM) : zEm ph (d + 1) 42 [(29, a, x0), (0, p0, y0)] M = zEv ph d 42 0 [(29, a, x0), (0, p0, y0), (3, 0, 0), (3, 0, 0), (3, 0, 0)] [] M := rfl
theorem e42_0 (ph : Bool) (d : Nat) (L st : List zV) (M : zM) : zEv ph d 42 0 L st M = zcont ph d 42 (zstep ph (zEm ph d) 4 1 0 [0] L st M) := zEv_step rfl
theorem e42_1 (ph : Bool) (d : Nat) (L st : List zV) (M : zM) : zEv ph d 42 1 L st M = zcont ph d 42 (zstep ph (zEm ph d) 62 4 0 [29, 4, 46, 25, 0] L st M) := zEv_step rfl
theorem e42_4 (ph : Bool) (d : Nat) (L st : List zV) (M : zM) : zEv ph d 42 4 L st M = zcont ph d 42 (zstep ph (zEm ph d) 60 7 0 [25, 5] L st M) := zEv_step rfl
theorem e42_7 (ph : Bool) (d : Nat) (L st : List zV) (M : zM) : zEv ph d 42 7 L st M = zcont ph d 42 (zstep ph (zEm ph d) 40 10 15 [] L st M) := zEv_step rfl
theorem e42_10 (ph : Bool) (d : Nat) (L st : List zV) (M : zM) : zEv ph d 42 10 L st M = zcont ph d 42 (zstep ph (zEm ph d) 2 11 0 [1] L st M) := zEv_step rfl
theorem e42_11 (ph : Bool) (d : Nat) (L st : List zV) (M : zM) : zEv ph d 42 11 L st M = zcont ph d 42 (zstep ph (zEm ph d) 0 12 0 [-1] L st M) := zEv_step rfl
theorem e42_12 (ph : Bool) (d : Nat) (L st : List zV) (M : zM) : zEv ph d 42 12 L st M = zcont ph d 42 (zstep ph (zEm ph d) 49 15 17 [] L st M) := zEv_step rfl
theorem e42_15 (ph : Bool) (d : Nat) (L st : List zV) (M : zM) : zEv ph d 42 15 L st M = zcont ph d 42 (zstep ph (zEm ph d) 0 16 0 [-1] L st M) := zEv_step rfl
theorem e42_16 (ph : Bool) (d : Nat) (L st : List zV) (M : zM) : zEv ph d 42 16 L st M = zcont ph d 42 (zstep ph (zEm ph d) 80 17 0 [] L st M) := zEv_step rfl
theorem e42_17 (ph : Bool) (d : Nat) (L st : List zV) (M : zM) : zEv ph d 42 17 L st M = zcont ph d 42 (zstep ph (zEm ph d) 4 18 0 [0] L st M) := zEv_step rfl
theorem e42_18 (ph : Bool) (d : Nat) (L st : List zV) (M : zM) : zEv ph d 42 18 L st M = zcont ph d 42 (zstep ph (zEm ph d) 62 21 0 [29, 4, 46, 25, 0] L st M) := zEv_step rfl
theorem e42_21 (ph : Bool) (d : Nat) (L st : List zV) (M : zM) : zEv ph d 42 21 L st M = zcont ph d 42 (zstep ph (zEm ph d) 4 22 0 [0] L st M) := zEv_step rfl
theorem e42_22 (ph : Bool) (d : Nat) (L st : List zV) (M : zM) : zEv ph d 42 22 L st M = zcont ph d 42 (zstep ph (zEm ph d) 62 25 0 [29, 2, 30, 28, 0] L st M) := zEv_step rfl
theorem e42_25 (ph : Bool) (d : Nat) (L st : List zV) (M : zM) : zEv ph d 42 25 L st M = zcont ph d 42 (zstep ph (zEm ph d) 4 26 0 [0] L st M) := zEv_step rfl
theorem e42_26 (ph : Bool) (d : Nat) (L st : List zV) (M : zM) : zEv ph d 42 26 L st M = zcont ph d 42 (zstep ph (zEm ph d) 62 29 0 [29, 3, 37, 26, 0] L st M) := zEv_step rfl
theorem e42_29 (ph : Bool) (d : Nat) (L st : List zV) (M : zM) : zEv ph d 42 29 L st M = zcont ph d 42 (zstep ph (zEm ph d) 70 32 107 [3, 1, 25] L st M) := zEv_step rfl
theorem e42_32 (ph : Bool) (d : Nat) (L st : List zV) (M : zM) : zEv ph d 42 32 L st M = zcont ph d 42 (zstep ph (zEm ph d) 5 33 0 [2] L st M) := zEv_step rfl
theorem e42_33 (ph : Bool) (d : Nat) (L st : List zV) (M : zM) : zEv ph d 42 33 L st M = zcont ph d 42 (zstep ph (zEm ph d) 2 34 0 [1] L st M) := zEv_step rfl
theorem e42_34 (ph : Bool) (d : Nat) (L st : List zV) (M : zM) : zEv ph d 42 34 L st M = zcont ph d 42 (zstep ph (zEm ph d) 0 35 0 [-1] L st M) := zEv_step rfl
theorem e42_35 (ph : Bool) (d : Nat) (L st : List zV) (M : zM) : zEv ph d 42 35 L st M = zcont ph d 42 (zstep ph (zEm ph d) 47 38 43 [] L st M) := zEv_step rfl
theorem e42_38 (ph : Bool) (d : Nat) (L st : List zV) (M : zM) : zEv ph d 42 38 L st M = zcont ph d 42 (zstep ph (zEm ph d) 2 39 0 [2] L st M) := zEv_step rfl
theorem e42_39 (ph : Bool) (d : Nat) (L st : List zV) (M : zM) : zEv ph d 42 39 L st M = zcont ph d 42 (zstep ph (zEm ph d) 70 42 320 [1, 1, -1] L st M) := zEv_step rfl
theorem e42_42 (ph : Bool) (d : Nat) (L st : List zV) (M : zM) : zEv ph d 42 42 L st M = zcont ph d 42 (zstep ph (zEm ph d) 80 43 0 [] L st M) := zEv_step rfl
theorem e42_43 (ph : Bool) (d : Nat) (L st : List zV) (M : zM) : zEv ph d 42 43 L st M = zcont ph d 42 (zstep ph (zEm ph d) 0 44 0 [0] L st M) := zEv_step rfl
theorem e42_44 (ph : Bool) (d : Nat) (L st : List zV) (M : zM) : zEv ph d 42 44 L st M = zcont ph d 42 (zstep ph (zEm ph d) 5 45 0 [3] L st M) := zEv_step rfl
theorem e42_45 (ph : Bool) (d : Nat) (L st : List zV) (M : zM) : zEv ph d 42 45 L st M = zcont ph d 42 (zstep ph (zEm ph d) 0 46 0 [0] L st M) := zEv_step rfl
theorem e42_46 (ph : Bool) (d : Nat) (L st : List zV) (M : zM) : zEv ph d 42 46 L st M = zcont ph d 42 (zstep ph (zEm ph d) 5 48 0 [4] L st M) := zEv_step rfl
theorem e42_48 (ph : Bool) (d : Nat) (L st : List zV) (M : zM) : zEv ph d 42 48 L st M = zcont ph d 42 (zstep ph (zEm ph d) 2 50 0 [4] L st M) := zEv_step rfl
theorem e42_50 (ph : Bool) (d : Nat) (L st : List zV) (M : zM) : zEv ph d 42 50 L st M = zcont ph d 42 (zstep ph (zEm ph d) 4 51 0 [0] L st M) := zEv_step rfl
theorem e42_51 (ph : Bool) (d : Nat) (L st : List zV) (M : zM) : zEv ph d 42 51 L st M = zcont ph d 42 (zstep ph (zEm ph d) 62 54 0 [29, 2, 30, 28, 0] L st M) := zEv_step rfl
theorem e42_54 (ph : Bool) (d : Nat) (L st : List zV) (M : zM) : zEv ph d 42 54 L st M = zcont ph d 42 (zstep ph (zEm ph d) 60 57 0 [28, 7] L st M) := zEv_step rfl
theorem e42_57 (ph : Bool) (d : Nat) (L st : List zV) (M : zM) : zEv ph d 42 57 L st M = zcont ph d 42 (zstep ph (zEm ph d) 49 60 86 [] L st M) := zEv_step rfl
theorem e42_60 (ph : Bool) (d : Nat) (L st : List zV) (M : zM) : zEv ph d 42 60 L st M = zcont ph d 42 (zstep ph (zEm ph d) 2 61 0 [2] L st M) := zEv_step rfl
theorem e42_61 (ph : Bool) (d : Nat) (L st : List zV) (M : zM) : zEv ph d 42 61 L st M = zcont ph d 42 (zstep ph (zEm ph d) 2 63 0 [4] L st M) := zEv_step rfl
theorem e42_63 (ph : Bool) (d : Nat) (L st : List zV) (M : zM) : zEv ph d 42 63 L st M = zcont ph d 42 (zstep ph (zEm ph d) 20 64 0 [] L st M) := zEv_step rfl
theorem e42_64 (ph : Bool) (d : Nat) (L st : List zV) (M : zM) : zEv ph d 42 64 L st M = zcont ph d 42 (zstep ph (zEm ph d) 0 65 0 [1] L st M) := zEv_step rfl
theorem e42_65 (ph : Bool) (d : Nat) (L st : List zV) (M : zM) : zEv ph d 42 65 L st M = zcont ph d 42 (zstep ph (zEm ph d) 16 66 0 [] L st M) := zEv_step rfl
theorem e42_66 (ph : Bool) (d : Nat) (L st : List zV) (M : zM) : zEv ph d 42 66 L st M = zcont ph d 42 (zstep ph (zEm ph d) 40 69 80 [] L st M) := zEv_step rfl
theorem e42_69 (ph : Bool) (d : Nat) (L st : List zV) (M : zM) : zEv ph d 42 69 L st M = zcont ph d 42 (zstep ph (zEm ph d) 2 70 0 [3] L st M) := zEv_step rfl
theorem e42_70 (ph : Bool) (d : Nat) (L st : List zV) (M : zM) : zEv ph d 42 70 L st M = zcont ph d 42 (zstep ph (zEm ph d) 2 71 0 [1] L st M) := zEv_step rfl
theorem e42_71 (ph : Bool) (d : Nat) (L st : List zV) (M : zM) : zEv ph d 42 71 L st M = zcont ph d 42 (zstep ph (zEm ph d) 47 74 77 [] L st M) := zEv_step rfl
theorem e42_74 (ph : Bool) (d : Nat) (L st : List zV) (M : zM) : zEv ph d 42 74 L st M = zcont ph d 42 (zstep ph (zEm ph d) 2 76 0 [4] L st M) := zEv_step rfl
theorem e42_76 (ph : Bool) (d : Nat) (L st : List zV) (M : zM) : zEv ph d 42 76 L st M = zcont ph d 42 (zstep ph (zEm ph d) 80 77 0 [] L st M) := zEv_step rfl
theorem e42_77 (ph : Bool) (d : Nat) (L st : List zV) (M : zM) : zEv ph d 42 77 L st M = zcont ph d 42 (zstep ph (zEm ph d) 8 80 0 [3, 1] L st M) := zEv_step rfl
theorem e42_80 (ph : Bool) (d : Nat) (L st : List zV) (M : zM) : zEv ph d 42 80 L st M = zcont ph d 42 (zstep ph (zEm ph d) 8 83 0 [4, 1] L st M) := zEv_step rfl
theorem e42_83 (ph : Bool) (d : Nat) (L st : List zV) (M : zM) : zEv ph d 42 83 L st M = zcont ph d 42 (zstep ph (zEm ph d) 52 86 48 [] L st M) := zEv_step rfl
theorem e42_86 (ph : Bool) (d : Nat) (L st : List zV) (M : zM) : zEv ph d 42 86 L st M = zcont ph d 42 (zstep ph (zEm ph d) 0 87 0 [-1] L st M) := zEv_step rfl
theorem e42_87 (ph : Bool) (d : Nat) (L st : List zV) (M : zM) : zEv ph d 42 87 L st M = zcont ph d 42 (zstep ph (zEm ph d) 80 88 0 [] L st M) := zEv_step rfl
theorem m295 (ph : Bool) (d : Nat) (a x0 p0 y0 p1 y1 : Int) (M : zM) : zEm ph (d + 1) 295 [(30, a, x0), (0, p0, y0), (0, p1, y1)] M = zEv ph d 295 0 [(30, a, x0), (0, p0, y0), (0, p1, y1), (3, 0, 0), (3, 0, 0), (3, 0, 0), (3, 0, 0), (3, 0, 0)] [] M := rfl
theorem e295_0 (ph : Bool) (d : Nat) (L st : List zV) (M : zM) : zEv ph d 295 0 L st M = zcont ph d 295 (zstep ph (zEm ph d) 0 3 0 [128] L st M) := zEv_step rfl
theorem e295_3 (ph : Bool) (d : Nat) (L st : List zV) (M : zM) : zEv ph d 295 3 L st M = zcont ph d 295 (zstep ph (zEm ph d) 0 4 0 [4] L st M) := zEv_step rfl
theorem e295_4 (ph : Bool) (d : Nat) (L st : List zV) (M : zM) : zEv ph d 295 4 L st M = zcont ph d 295 (zstep ph (zEm ph d) 2 5 0 [1] L st M) := zEv_step rfl
theorem e295_5 (ph : Bool) (d : Nat) (L st : List zV) (M : zM) : zEv ph d 295 5 L st M = zcont ph d 295 (zstep ph (zEm ph d) 12 6 0 [] L st M) := zEv_step rfl
theorem e295_6 (ph : Bool) (d : Nat) (L st : List zV) (M : zM) : zEv ph d 295 6 L st M = zcont ph d 295 (zstep ph (zEm ph d) 10 7 0 [] L st M) := zEv_step rfl
theorem e295_7 (ph : Bool) (d : Nat) (L st : List zV) (M : zM) : zEv ph d 295 7 L st M = zcont ph d 295 (zstep ph (zEm ph d) 5 8 0 [3] L st M) := zEv_step rfl
theorem e295_8 (ph : Bool) (d : Nat) (L st : List zV) (M : zM) : zEv ph d 295 8 L st M = zcont ph d 295 (zstep ph (zEm ph d) 4 9 0 [0] L st M) := zEv_step rfl
theorem e295_9 (ph : Bool) (d : Nat) (L st : List zV) (M : zM) : zEv ph d 295 9 L st M = zcont ph d 295 (zstep ph (zEm ph d) 62 12 0 [30, 14, 2, 10, 368] L st M) := zEv_step rfl
theorem e295_12 (ph : Bool) (d : Nat) (L st : List zV) (M : zM) : zEv ph d 295 12 L st M = zcont ph d 295 (zstep ph (zEm ph d) 2 13 0 [3] L st M) := zEv_step rfl
theorem e295_13 (ph : Bool) (d : Nat) (L st : List zV) (M : zM) : zEv ph d 295 13 L st M = zcont ph d 295 (zstep ph (zEm ph d) 0 14 0 [1] L st M) := zEv_step rfl
theorem e295_14 (ph : Bool) (d : Nat) (L st : List zV) (M : zM) : zEv ph d 295 14 L st M = zcont ph d 295 (zstep ph (zEm ph d) 10 15 0 [] L st M) := zEv_step rfl
theorem e295_15 (ph : Bool) (d : Nat) (L st : List zV) (M : zM) : zEv ph d 295 15 L st M = zcont ph d 295 (zstep ph (zEm ph d) 85 16 0 [] L st M) := zEv_step rfl
theorem e295_16 (ph : Bool) (d : Nat) (L st : List zV) (M : zM) : zEv ph d 295 16 L st M = zcont ph d 295 (zstep ph (zEm ph d) 5 18 0 [4] L st M) := zEv_step rfl
theorem e295_18 (ph : Bool) (d : Nat) (L st : List zV) (M : zM) : zEv ph d 295 18 L st M = zcont ph d 295 (zstep ph (zEm ph d) 4 19 0 [0] L st M) := zEv_step rfl
theorem e295_19 (ph : Bool) (d : Nat) (L st : List zV) (M : zM) : zEv ph d 295 19 L st M = zcont ph d 295 (zstep ph (zEm ph d) 62 22 0 [30, 14, 2, 10, 368] L st M) := zEv_step rfl
theorem e295_22 (ph : Bool) (d : Nat) (L st : List zV) (M : zM) : zEv ph d 295 22 L st M = zcont ph d 295 (zstep ph (zEm ph d) 2 23 0 [3] L st M) := zEv_step rfl
theorem e295_23 (ph : Bool) (d : Nat) (L st : List zV) (M : zM) : zEv ph d 295 23 L st M = zcont ph d 295 (zstep ph (zEm ph d) 0 24 0 [2] L st M) := zEv_step rfl
theorem e295_24 (ph : Bool) (d : Nat) (L st : List zV) (M : zM) : zEv ph d 295 24 L st M = zcont ph d 295 (zstep ph (zEm ph d) 10 25 0 [] L st M) := zEv_step rfl
theorem e295_25 (ph : Bool) (d : Nat) (L st : List zV) (M : zM) : zEv ph d 295 25 L st M = zcont ph d 295 (zstep ph (zEm ph d) 85 26 0 [] L st M) := zEv_step rfl
theorem e295_26 (ph : Bool) (d : Nat) (L st : List zV) (M : zM) : zEv ph d 295 26 L st M = zcont ph d 295 (zstep ph (zEm ph d) 5 28 0 [5] L st M) := zEv_step rfl
theorem e295_28 (ph : Bool) (d : Nat) (L st : List zV) (M : zM) : zEv ph d 295 28 L st M = zcont ph d 295 (zstep ph (zEm ph d) 4 29 0 [0] L st M) := zEv_step rfl
theorem e295_29 (ph : Bool) (d : Nat) (L st : List zV) (M : zM) : zEv ph d 295 29 L st M = zcont ph d 295 (zstep ph (zEm ph d) 62 32 0 [30, 14, 2, 10, 368] L st M) := zEv_step rfl
theorem e295_32 (ph : Bool) (d : Nat) (L st : List zV) (M : zM) : zEv ph d 295 32 L st M = zcont ph d 295 (zstep ph (zEm ph d) 2 33 0 [3] L st M) := zEv_step rfl
theorem e295_33 (ph : Bool) (d : Nat) (L st : List zV) (M : zM) : zEv ph d 295 33 L st M = zcont ph d 295 (zstep ph (zEm ph d) 85 34 0 [] L st M) := zEv_step rfl
theorem e295_34 (ph : Bool) (d : Nat) (a y : Int) (L st : List zV) (M : zM) : zEv ph d 295 34 L ((0, a, y) :: st) M = dite (a = 1) (fun _ => zEv ph d 295 108 L st M) (fun _ => dite (a = 2) (fun _ => zEv ph d 295 124 L st M) (fun _ => dite (a = 3) (fun _ => zEv ph d 295 150 L st M) (fun _ => dite (a = 74) (fun _ => zEv ph d 295 176 L st M) (fun _ => dite (a = 75) (fun _ => zEv ph d 295 188 L st M) (fun _ => dite (a = 76) (fun _ => zEv ph d 295 200 L st M) (fun _ => dite (a = 77) (fun _ => zEv ph d 295 220 L st M) (fun _ => dite (a = 78) (fun _ => zEv ph d 295 235 L st M) (fun _ => zEv ph d 295 250 L st M)))))))) := (zEv_step (op := 57) (nx := 108) (tg := 250) (r := [1, 108, 2, 124, 3, 150, 74, 176, 75, 188, 76, 200, 77, 220, 78, 235]) rfl).trans (zls8 (fun q => zEv ph d 295 q L st M))
theorem e295_108 (ph : Bool) (d : Nat) (L st : List zV) (M : zM) : zEv ph d 295 108 L st M = zcont ph d 295 (zstep ph (zEm ph d) 4 109 0 [0] L st M) := zEv_step rfl
theorem e295_109 (ph : Bool) (d : Nat) (L st : List zV) (M : zM) : zEv ph d 295 109 L st M = zcont ph d 295 (zstep ph (zEm ph d) 2 111 0 [4] L st M) := zEv_step rfl
theorem e295_111 (ph : Bool) (d : Nat) (L st : List zV) (M : zM) : zEv ph d 295 111 L st M = zcont ph d 295 (zstep ph (zEm ph d) 2 112 0 [2] L st M) := zEv_step rfl
theorem e295_112 (ph : Bool) (d : Nat) (L st : List zV) (M : zM) : zEv ph d 295 112 L st M = zcont ph d 295 (zstep ph (zEm ph d) 70 115 295 [3, 1, 30] L st M) := zEv_step rfl
theorem e295_115 (ph : Bool) (d : Nat) (L st : List zV) (M : zM) : zEv ph d 295 115 L st M = zcont ph d 295 (zstep ph (zEm ph d) 41 118 122 [] L st M) := zEv_step rfl
theorem e295_118 (ph : Bool) (d : Nat) (L st : List zV) (M : zM) : zEv ph d 295 118 L st M = zcont ph d 295 (zstep ph (zEm ph d) 0 119 0 [1] L st M) := zEv_step rfl
theorem e295_119 (ph : Bool) (d : Nat) (L st : List zV) (M : zM) : zEv ph d 295 119 L st M = zcont ph d 295 (zstep ph (zEm ph d) 52 122 123 [] L st M) := zEv_step rfl
theorem e295_122 (ph : Bool) (d : Nat) (L st : List zV) (M : zM) : zEv ph d 295 122 L st M = zcont ph d 295 (zstep ph (zEm ph d) 0 123 0 [0] L st M) := zEv_step rfl
theorem e295_123 (ph : Bool) (d : Nat) (L st : List zV) (M : zM) : zEv ph d 295 123 L st M = zcont ph d 295 (zstep ph (zEm ph d) 80 124 0 [0, 1] L st M) := zEv_step rfl
theorem e295_124 (ph : Bool) (d : Nat) (L st : List zV) (M : zM) : zEv ph d 295 124 L st M = zcont ph d 295 (zstep ph (zEm ph d) 4 125 0 [0] L st M) := zEv_step rfl
theorem e295_125 (ph : Bool) (d : Nat) (L st : List zV) (M : zM) : zEv ph d 295 125 L st M = zcont ph d 295 (zstep ph (zEm ph d) 2 127 0 [4] L st M) := zEv_step rfl
theorem e295_127 (ph : Bool) (d : Nat) (L st : List zV) (M : zM) : zEv ph d 295 127 L st M = zcont ph d 295 (zstep ph (zEm ph d) 2 128 0 [2] L st M) := zEv_step rfl
theorem e295_128 (ph : Bool) (d : Nat) (L st : List zV) (M : zM) : zEv ph d 295 128 L st M = zcont ph d 295 (zstep ph (zEm ph d) 70 131 295 [3, 1, 30] L st M) := zEv_step rfl
theorem e295_131 (ph : Bool) (d : Nat) (L st : List zV) (M : zM) : zEv ph d 295 131 L st M = zcont ph d 295 (zstep ph (zEm ph d) 40 134 148 [] L st M) := zEv_step rfl
theorem e295_134 (ph : Bool) (d : Nat) (L st : List zV) (M : zM) : zEv ph d 295 134 L st M = zcont ph d 295 (zstep ph (zEm ph d) 4 135 0 [0] L st M) := zEv_step rfl
theorem e295_135 (ph : Bool) (d : Nat) (L st : List zV) (M : zM) : zEv ph d 295 135 L st M = zcont ph d 295 (zstep ph (zEm ph d) 2 137 0 [5] L st M) := zEv_step rfl
theorem e295_137 (ph : Bool) (d : Nat) (L st : List zV) (M : zM) : zEv ph d 295 137 L st M = zcont ph d 295 (zstep ph (zEm ph d) 2 138 0 [2] L st M) := zEv_step rfl
theorem e295_138 (ph : Bool) (d : Nat) (L st : List zV) (M : zM) : zEv ph d 295 138 L st M = zcont ph d 295 (zstep ph (zEm ph d) 70 141 295 [3, 1, 30] L st M) := zEv_step rfl
theorem e295_141 (ph : Bool) (d : Nat) (L st : List zV) (M : zM) : zEv ph d 295 141 L st M = zcont ph d 295 (zstep ph (zEm ph d) 40 144 148 [] L st M) := zEv_step rfl
theorem e295_144 (ph : Bool) (d : Nat) (L st : List zV) (M : zM) : zEv ph d 295 144 L st M = zcont ph d 295 (zstep ph (zEm ph d) 0 145 0 [1] L st M) := zEv_step rfl
theorem e295_145 (ph : Bool) (d : Nat) (L st : List zV) (M : zM) : zEv ph d 295 145 L st M = zcont ph d 295 (zstep ph (zEm ph d) 52 148 149 [] L st M) := zEv_step rfl
theorem e295_148 (ph : Bool) (d : Nat) (L st : List zV) (M : zM) : zEv ph d 295 148 L st M = zcont ph d 295 (zstep ph (zEm ph d) 0 149 0 [0] L st M) := zEv_step rfl
theorem e295_149 (ph : Bool) (d : Nat) (L st : List zV) (M : zM) : zEv ph d 295 149 L st M = zcont ph d 295 (zstep ph (zEm ph d) 80 150 0 [0, 1] L st M) := zEv_step rfl
theorem e295_150 (ph : Bool) (d : Nat) (L st : List zV) (M : zM) : zEv ph d 295 150 L st M = zcont ph d 295 (zstep ph (zEm ph d) 4 151 0 [0] L st M) := zEv_step rfl
theorem e295_151 (ph : Bool) (d : Nat) (L st : List zV) (M : zM) : zEv ph d 295 151 L st M = zcont ph d 295 (zstep ph (zEm ph d) 2 153 0 [4] L st M) := zEv_step rfl
theorem e295_153 (ph : Bool) (d : Nat) (L st : List zV) (M : zM) : zEv ph d 295 153 L st M = zcont ph d 295 (zstep ph (zEm ph d) 2 154 0 [2] L st M) := zEv_step rfl
theorem e295_154 (ph : Bool) (d : Nat) (L st : List zV) (M : zM) : zEv ph d 295 154 L st M = zcont ph d 295 (zstep ph (zEm ph d) 70 157 295 [3, 1, 30] L st M) := zEv_step rfl
theorem e295_157 (ph : Bool) (d : Nat) (L st : List zV) (M : zM) : zEv ph d 295 157 L st M = zcont ph d 295 (zstep ph (zEm ph d) 41 160 170 [] L st M) := zEv_step rfl
theorem e295_160 (ph : Bool) (d : Nat) (L st : List zV) (M : zM) : zEv ph d 295 160 L st M = zcont ph d 295 (zstep ph (zEm ph d) 4 161 0 [0] L st M) := zEv_step rfl
theorem e295_161 (ph : Bool) (d : Nat) (L st : List zV) (M : zM) : zEv ph d 295 161 L st M = zcont ph d 295 (zstep ph (zEm ph d) 2 163 0 [5] L st M) := zEv_step rfl
theorem e295_163 (ph : Bool) (d : Nat) (L st : List zV) (M : zM) : zEv ph d 295 163 L st M = zcont ph d 295 (zstep ph (zEm ph d) 2 164 0 [2] L st M) := zEv_step rfl
theorem e295_164 (ph : Bool) (d : Nat) (L st : List zV) (M : zM) : zEv ph d 295 164 L st M = zcont ph d 295 (zstep ph (zEm ph d) 70 167 295 [3, 1, 30] L st M) := zEv_step rfl
theorem e295_167 (ph : Bool) (d : Nat) (L st : List zV) (M : zM) : zEv ph d 295 167 L st M = zcont ph d 295 (zstep ph (zEm ph d) 40 170 174 [] L st M) := zEv_step rfl
theorem e295_170 (ph : Bool) (d : Nat) (L st : List zV) (M : zM) : zEv ph d 295 170 L st M = zcont ph d 295 (zstep ph (zEm ph d) 0 171 0 [1] L st M) := zEv_step rfl
theorem e295_171 (ph : Bool) (d : Nat) (L st : List zV) (M : zM) : zEv ph d 295 171 L st M = zcont ph d 295 (zstep ph (zEm ph d) 52 174 175 [] L st M) := zEv_step rfl
theorem e295_174 (ph : Bool) (d : Nat) (L st : List zV) (M : zM) : zEv ph d 295 174 L st M = zcont ph d 295 (zstep ph (zEm ph d) 0 175 0 [0] L st M) := zEv_step rfl
theorem e295_175 (ph : Bool) (d : Nat) (L st : List zV) (M : zM) : zEv ph d 295 175 L st M = zcont ph d 295 (zstep ph (zEm ph d) 80 176 0 [0, 1] L st M) := zEv_step rfl
theorem e295_176 (ph : Bool) (d : Nat) (L st : List zV) (M : zM) : zEv ph d 295 176 L st M = zcont ph d 295 (zstep ph (zEm ph d) 4 177 0 [0] L st M) := zEv_step rfl
theorem e295_177 (ph : Bool) (d : Nat) (L st : List zV) (M : zM) : zEv ph d 295 177 L st M = zcont ph d 295 (zstep ph (zEm ph d) 62 180 0 [30, 14, 2, 10, 368] L st M) := zEv_step rfl
theorem e295_180 (ph : Bool) (d : Nat) (L st : List zV) (M : zM) : zEv ph d 295 180 L st M = zcont ph d 295 (zstep ph (zEm ph d) 0 182 0 [77] L st M) := zEv_step rfl
theorem e295_182 (ph : Bool) (d : Nat) (L st : List zV) (M : zM) : zEv ph d 295 182 L st M = zcont ph d 295 (zstep ph (zEm ph d) 85 183 0 [] L st M) := zEv_step rfl
theorem e295_183 (ph : Bool) (d : Nat) (L st : List zV) (M : zM) : zEv ph d 295 183 L st M = zcont ph d 295 (zstep ph (zEm ph d) 2 184 0 [2] L st M) := zEv_step rfl
theorem e295_184 (ph : Bool) (d : Nat) (L st : List zV) (M : zM) : zEv ph d 295 184 L st M = zcont ph d 295 (zstep ph (zEm ph d) 70 187 169 [2, 1, -1] L st M) := zEv_step rfl
theorem e295_187 (ph : Bool) (d : Nat) (L st : List zV) (M : zM) : zEv ph d 295 187 L st M = zcont ph d 295 (zstep ph (zEm ph d) 80 188 0 [0, 1] L st M) := zEv_step rfl
theorem e295_188 (ph : Bool) (d : Nat) (L st : List zV) (M : zM) : zEv ph d 295 188 L st M = zcont ph d 295 (zstep ph (zEm ph d) 4 189 0 [0] L st M) := zEv_step rfl
theorem e295_189 (ph : Bool) (d : Nat) (L st : List zV) (M : zM) : zEv ph d 295 189 L st M = zcont ph d 295 (zstep ph (zEm ph d) 62 192 0 [30, 14, 2, 10, 368] L st M) := zEv_step rfl
theorem e295_192 (ph : Bool) (d : Nat) (L st : List zV) (M : zM) : zEv ph d 295 192 L st M = zcont ph d 295 (zstep ph (zEm ph d) 0 194 0 [39] L st M) := zEv_step rfl
theorem e295_194 (ph : Bool) (d : Nat) (L st : List zV) (M : zM) : zEv ph d 295 194 L st M = zcont ph d 295 (zstep ph (zEm ph d) 85 195 0 [] L st M) := zEv_step rfl
theorem e295_195 (ph : Bool) (d : Nat) (L st : List zV) (M : zM) : zEv ph d 295 195 L st M = zcont ph d 295 (zstep ph (zEm ph d) 2 196 0 [2] L st M) := zEv_step rfl
theorem e295_196 (ph : Bool) (d : Nat) (L st : List zV) (M : zM) : zEv ph d 295 196 L st M = zcont ph d 295 (zstep ph (zEm ph d) 70 199 169 [2, 1, -1] L st M) := zEv_step rfl
theorem e295_199 (ph : Bool) (d : Nat) (L st : List zV) (M : zM) : zEv ph d 295 199 L st M = zcont ph d 295 (zstep ph (zEm ph d) 80 200 0 [0, 1] L st M) := zEv_step rfl
theorem e295_200 (ph : Bool) (d : Nat) (L st : List zV) (M : zM) : zEv ph d 295 200 L st M = zcont ph d 295 (zstep ph (zEm ph d) 4 201 0 [0] L st M) := zEv_step rfl
theorem e295_201 (ph : Bool) (d : Nat) (L st : List zV) (M : zM) : zEv ph d 295 201 L st M = zcont ph d 295 (zstep ph (zEm ph d) 62 204 0 [30, 14, 2, 10, 368] L st M) := zEv_step rfl
theorem e295_204 (ph : Bool) (d : Nat) (L st : List zV) (M : zM) : zEv ph d 295 204 L st M = zcont ph d 295 (zstep ph (zEm ph d) 0 206 0 [9] L st M) := zEv_step rfl
theorem e295_206 (ph : Bool) (d : Nat) (L st : List zV) (M : zM) : zEv ph d 295 206 L st M = zcont ph d 295 (zstep ph (zEm ph d) 2 207 0 [2] L st M) := zEv_step rfl
theorem e295_207 (ph : Bool) (d : Nat) (L st : List zV) (M : zM) : zEv ph d 295 207 L st M = zcont ph d 295 (zstep ph (zEm ph d) 10 208 0 [] L st M) := zEv_step rfl
theorem e295_208 (ph : Bool) (d : Nat) (L st : List zV) (M : zM) : zEv ph d 295 208 L st M = zcont ph d 295 (zstep ph (zEm ph d) 85 209 0 [] L st M) := zEv_step rfl
theorem e295_209 (ph : Bool) (d : Nat) (L st : List zV) (M : zM) : zEv ph d 295 209 L st M = zcont ph d 295 (zstep ph (zEm ph d) 2 211 0 [4] L st M) := zEv_step rfl
theorem e295_211 (ph : Bool) (d : Nat) (L st : List zV) (M : zM) : zEv ph d 295 211 L st M = zcont ph d 295 (zstep ph (zEm ph d) 47 214 218 [] L st M) := zEv_step rfl
theorem e295_214 (ph : Bool) (d : Nat) (L st : List zV) (M : zM) : zEv ph d 295 214 L st M = zcont ph d 295 (zstep ph (zEm ph d) 0 215 0 [1] L st M) := zEv_step rfl
theorem e295_215 (ph : Bool) (d : Nat) (L st : List zV) (M : zM) : zEv ph d 295 215 L st M = zcont ph d 295 (zstep ph (zEm ph d) 52 218 219 [] L st M) := zEv_step rfl
theorem e295_218 (ph : Bool) (d : Nat) (L st : List zV) (M : zM) : zEv ph d 295 218 L st M = zcont ph d 295 (zstep ph (zEm ph d) 0 219 0 [0] L st M) := zEv_step rfl
theorem e295_219 (ph : Bool) (d : Nat) (L st : List zV) (M : zM) : zEv ph d 295 219 L st M = zcont ph d 295 (zstep ph (zEm ph d) 80 220 0 [0, 1] L st M) := zEv_step rfl
theorem e295_220 (ph : Bool) (d : Nat) (L st : List zV) (M : zM) : zEv ph d 295 220 L st M = zcont ph d 295 (zstep ph (zEm ph d) 4 221 0 [0] L st M) := zEv_step rfl
theorem e295_221 (ph : Bool) (d : Nat) (L st : List zV) (M : zM) : zEv ph d 295 221 L st M = zcont ph d 295 (zstep ph (zEm ph d) 62 224 0 [30, 14, 2, 10, 368] L st M) := zEv_step rfl
theorem e295_224 (ph : Bool) (d : Nat) (L st : List zV) (M : zM) : zEv ph d 295 224 L st M = zcont ph d 295 (zstep ph (zEm ph d) 0 226 0 [101] L st M) := zEv_step rfl
theorem e295_226 (ph : Bool) (d : Nat) (L st : List zV) (M : zM) : zEv ph d 295 226 L st M = zcont ph d 295 (zstep ph (zEm ph d) 2 228 0 [4] L st M) := zEv_step rfl
theorem e295_228 (ph : Bool) (d : Nat) (L st : List zV) (M : zM) : zEv ph d 295 228 L st M = zcont ph d 295 (zstep ph (zEm ph d) 10 229 0 [] L st M) := zEv_step rfl
theorem e295_229 (ph : Bool) (d : Nat) (L st : List zV) (M : zM) : zEv ph d 295 229 L st M = zcont ph d 295 (zstep ph (zEm ph d) 85 230 0 [] L st M) := zEv_step rfl
theorem e295_230 (ph : Bool) (d : Nat) (L st : List zV) (M : zM) : zEv ph d 295 230 L st M = zcont ph d 295 (zstep ph (zEm ph d) 2 231 0 [2] L st M) := zEv_step rfl
theorem e295_231 (ph : Bool) (d : Nat) (L st : List zV) (M : zM) : zEv ph d 295 231 L st M = zcont ph d 295 (zstep ph (zEm ph d) 70 234 169 [2, 1, -1] L st M) := zEv_step rfl
theorem e295_234 (ph : Bool) (d : Nat) (L st : List zV) (M : zM) : zEv ph d 295 234 L st M = zcont ph d 295 (zstep ph (zEm ph d) 80 235 0 [0, 1] L st M) := zEv_step rfl
theorem e295_235 (ph : Bool) (d : Nat) (L st : List zV) (M : zM) : zEv ph d 295 235 L st M = zcont ph d 295 (zstep ph (zEm ph d) 4 236 0 [0] L st M) := zEv_step rfl
theorem e295_236 (ph : Bool) (d : Nat) (L st : List zV) (M : zM) : zEv ph d 295 236 L st M = zcont ph d 295 (zstep ph (zEm ph d) 62 239 0 [30, 14, 2, 10, 368] L st M) := zEv_step rfl
theorem e295_239 (ph : Bool) (d : Nat) (L st : List zV) (M : zM) : zEv ph d 295 239 L st M = zcont ph d 295 (zstep ph (zEm ph d) 0 241 0 [106] L st M) := zEv_step rfl
theorem e295_241 (ph : Bool) (d : Nat) (L st : List zV) (M : zM) : zEv ph d 295 241 L st M = zcont ph d 295 (zstep ph (zEm ph d) 2 243 0 [4] L st M) := zEv_step rfl
theorem e295_243 (ph : Bool) (d : Nat) (L st : List zV) (M : zM) : zEv ph d 295 243 L st M = zcont ph d 295 (zstep ph (zEm ph d) 10 244 0 [] L st M) := zEv_step rfl
theorem e295_244 (ph : Bool) (d : Nat) (L st : List zV) (M : zM) : zEv ph d 295 244 L st M = zcont ph d 295 (zstep ph (zEm ph d) 85 245 0 [] L st M) := zEv_step rfl
theorem e295_245 (ph : Bool) (d : Nat) (L st : List zV) (M : zM) : zEv ph d 295 245 L st M = zcont ph d 295 (zstep ph (zEm ph d) 2 246 0 [2] L st M) := zEv_step rfl
theorem e295_246 (ph : Bool) (d : Nat) (L st : List zV) (M : zM) : zEv ph d 295 246 L st M = zcont ph d 295 (zstep ph (zEm ph d) 70 249 169 [2, 1, -1] L st M) := zEv_step rfl
theorem e295_249 (ph : Bool) (d : Nat) (L st : List zV) (M : zM) : zEv ph d 295 249 L st M = zcont ph d 295 (zstep ph (zEm ph d) 80 250 0 [0, 1] L st M) := zEv_step rfl
theorem e295_250 (ph : Bool) (d : Nat) (L st : List zV) (M : zM) : zEv ph d 295 250 L st M = zcont ph d 295 (zstep ph (zEm ph d) 4 251 0 [0] L st M) := zEv_step rfl
theorem e295_251 (ph : Bool) (d : Nat) (L st : List zV) (M : zM) : zEv ph d 295 251 L st M = zcont ph d 295 (zstep ph (zEm ph d) 62 254 0 [30, 14, 2, 10, 368] L st M) := zEv_step rfl
theorem e295_254 (ph : Bool) (d : Nat) (L st : List zV) (M : zM) : zEv ph d 295 254 L st M = zcont ph d 295 (zstep ph (zEm ph d) 2 255 0 [3] L st M) := zEv_step rfl
theorem e295_255 (ph : Bool) (d : Nat) (L st : List zV) (M : zM) : zEv ph d 295 255 L st M = zcont ph d 295 (zstep ph (zEm ph d) 85 256 0 [] L st M) := zEv_step rfl
theorem e295_256 (ph : Bool) (d : Nat) (L st : List zV) (M : zM) : zEv ph d 295 256 L st M = zcont ph d 295 (zstep ph (zEm ph d) 0 258 0 [50] L st M) := zEv_step rfl
theorem e295_258 (ph : Bool) (d : Nat) (L st : List zV) (M : zM) : zEv ph d 295 258 L st M = zcont ph d 295 (zstep ph (zEm ph d) 11 259 0 [] L st M) := zEv_step rfl
theorem e295_259 (ph : Bool) (d : Nat) (L st : List zV) (M : zM) : zEv ph d 295 259 L st M = zcont ph d 295 (zstep ph (zEm ph d) 5 261 0 [6] L st M) := zEv_step rfl
theorem e295_261 (ph : Bool) (d : Nat) (L st : List zV) (M : zM) : zEv ph d 295 261 L st M = zcont ph d 295 (zstep ph (zEm ph d) 2 263 0 [6] L st M) := zEv_step rfl
theorem e295_263 (ph : Bool) (d : Nat) (L st : List zV) (M : zM) : zEv ph d 295 263 L st M = zcont ph d 295 (zstep ph (zEm ph d) 0 265 0 [29] L st M) := zEv_step rfl
theorem e295_265 (ph : Bool) (d : Nat) (L st : List zV) (M : zM) : zEv ph d 295 265 L st M = zcont ph d 295 (zstep ph (zEm ph d) 47 268 280 [] L st M) := zEv_step rfl
theorem e295_268 (ph : Bool) (d : Nat) (L st : List zV) (M : zM) : zEv ph d 295 268 L st M = zcont ph d 295 (zstep ph (zEm ph d) 4 269 0 [0] L st M) := zEv_step rfl
theorem e295_269 (ph : Bool) (d : Nat) (L st : List zV) (M : zM) : zEv ph d 295 269 L st M = zcont ph d 295 (zstep ph (zEm ph d) 62 272 0 [30, 14, 2, 10, 368] L st M) := zEv_step rfl
theorem e295_272 (ph : Bool) (d : Nat) (L st : List zV) (M : zM) : zEv ph d 295 272 L st M = zcont ph d 295 (zstep ph (zEm ph d) 0 274 0 [81] L st M) := zEv_step rfl
theorem e295_274 (ph : Bool) (d : Nat) (L st : List zV) (M : zM) : zEv ph d 295 274 L st M = zcont ph d 295 (zstep ph (zEm ph d) 2 275 0 [2] L st M) := zEv_step rfl
theorem e295_275 (ph : Bool) (d : Nat) (L st : List zV) (M : zM) : zEv ph d 295 275 L st M = zcont ph d 295 (zstep ph (zEm ph d) 10 276 0 [] L st M) := zEv_step rfl
theorem e295_276 (ph : Bool) (d : Nat) (L st : List zV) (M : zM) : zEv ph d 295 276 L st M = zcont ph d 295 (zstep ph (zEm ph d) 85 277 0 [] L st M) := zEv_step rfl
theorem e295_277 (ph : Bool) (d : Nat) (L st : List zV) (M : zM) : zEv ph d 295 277 L st M = zcont ph d 295 (zstep ph (zEm ph d) 52 280 300 [] L st M) := zEv_step rfl
theorem e295_280 (ph : Bool) (d : Nat) (L st : List zV) (M : zM) : zEv ph d 295 280 L st M = zcont ph d 295 (zstep ph (zEm ph d) 2 282 0 [6] L st M) := zEv_step rfl
theorem e295_282 (ph : Bool) (d : Nat) (L st : List zV) (M : zM) : zEv ph d 295 282 L st M = zcont ph d 295 (zstep ph (zEm ph d) 0 284 0 [30] L st M) := zEv_step rfl
theorem e295_284 (ph : Bool) (d : Nat) (L st : List zV) (M : zM) : zEv ph d 295 284 L st M = zcont ph d 295 (zstep ph (zEm ph d) 47 287 299 [] L st M) := zEv_step rfl
theorem e295_287 (ph : Bool) (d : Nat) (L st : List zV) (M : zM) : zEv ph d 295 287 L st M = zcont ph d 295 (zstep ph (zEm ph d) 4 288 0 [0] L st M) := zEv_step rfl
theorem e295_288 (ph : Bool) (d : Nat) (L st : List zV) (M : zM) : zEv ph d 295 288 L st M = zcont ph d 295 (zstep ph (zEm ph d) 62 291 0 [30, 14, 2, 10, 368] L st M) := zEv_step rfl
theorem e295_291 (ph : Bool) (d : Nat) (L st : List zV) (M : zM) : zEv ph d 295 291 L st M = zcont ph d 295 (zstep ph (zEm ph d) 0 293 0 [91] L st M) := zEv_step rfl
theorem e295_293 (ph : Bool) (d : Nat) (L st : List zV) (M : zM) : zEv ph d 295 293 L st M = zcont ph d 295 (zstep ph (zEm ph d) 2 294 0 [2] L st M) := zEv_step rfl
theorem e295_294 (ph : Bool) (d : Nat) (L st : List zV) (M : zM) : zEv ph d 295 294 L st M = zcont ph d 295 (zstep ph (zEm ph d) 10 295 0 [] L st M) := zEv_step rfl
theorem e295_295 (ph : Bool) (d : Nat) (L st : List zV) (M : zM) : zEv ph d 295 295 L st M = zcont ph d 295 (zstep ph (zEm ph d) 85 296 0 [] L st M) := zEv_step rfl
theorem e295_296 (ph : Bool) (d : Nat) (L st : List zV) (M : zM) : zEv ph d 295 296 L st M = zcont ph d 295 (zstep ph (zEm ph d) 52 299 300 [] L st M) := zEv_step rfl
theorem e295_299 (ph : Bool) (d : Nat) (L st : List zV) (M : zM) : zEv ph d 295 299 L st M = zcont ph d 295 (zstep ph (zEm ph d) 2 300 0 [2] L st M) := zEv_step rfl
theorem e295_300 (ph : Bool) (d : Nat) (L st : List zV) (M : zM) : zEv ph d 295 300 L st M = zcont ph d 295 (zstep ph (zEm ph d) 5 302 0 [7] L st M) := zEv_step rfl
theorem e295_302 (ph : Bool) (d : Nat) (L st : List zV) (M : zM) : zEv ph d 295 302 L st M = zcont ph d 295 (zstep ph (zEm ph d) 4 303 0 [0] L st M) := zEv_step rfl
theorem e295_303 (ph : Bool) (d : Nat) (L st : List zV) (M : zM) : zEv ph d 295 303 L st M = zcont ph d 295 (zstep ph (zEm ph d) 62 306 0 [30, 14, 2, 10, 368] L st M) := zEv_step rfl
theorem e295_306 (ph : Bool) (d : Nat) (L st : List zV) (M : zM) : zEv ph d 295 306 L st M = zcont ph d 295 (zstep ph (zEm ph d) 2 307 0 [3] L st M) := zEv_step rfl
theorem e295_307 (ph : Bool) (d : Nat) (L st : List zV) (M : zM) : zEv ph d 295 307 L st M = zcont ph d 295 (zstep ph (zEm ph d) 0 308 0 [3] L st M) := zEv_step rfl
theorem e295_308 (ph : Bool) (d : Nat) (L st : List zV) (M : zM) : zEv ph d 295 308 L st M = zcont ph d 295 (zstep ph (zEm ph d) 10 309 0 [] L st M) := zEv_step rfl
theorem e295_309 (ph : Bool) (d : Nat) (L st : List zV) (M : zM) : zEv ph d 295 309 L st M = zcont ph d 295 (zstep ph (zEm ph d) 85 310 0 [] L st M) := zEv_step rfl
theorem e295_310 (ph : Bool) (d : Nat) (L st : List zV) (M : zM) : zEv ph d 295 310 L st M = zcont ph d 295 (zstep ph (zEm ph d) 0 312 0 [60] L st M) := zEv_step rfl
theorem e295_312 (ph : Bool) (d : Nat) (L st : List zV) (M : zM) : zEv ph d 295 312 L st M = zcont ph d 295 (zstep ph (zEm ph d) 47 315 330 [] L st M) := zEv_step rfl
theorem e295_315 (ph : Bool) (d : Nat) (L st : List zV) (M : zM) : zEv ph d 295 315 L st M = zcont ph d 295 (zstep ph (zEm ph d) 2 317 0 [7] L st M) := zEv_step rfl
theorem e295_317 (ph : Bool) (d : Nat) (L st : List zV) (M : zM) : zEv ph d 295 317 L st M = zcont ph d 295 (zstep ph (zEm ph d) 2 319 0 [5] L st M) := zEv_step rfl
theorem e295_319 (ph : Bool) (d : Nat) (L st : List zV) (M : zM) : zEv ph d 295 319 L st M = zcont ph d 295 (zstep ph (zEm ph d) 49 322 326 [] L st M) := zEv_step rfl
theorem e295_322 (ph : Bool) (d : Nat) (L st : List zV) (M : zM) : zEv ph d 295 322 L st M = zcont ph d 295 (zstep ph (zEm ph d) 0 323 0 [1] L st M) := zEv_step rfl
theorem e295_323 (ph : Bool) (d : Nat) (L st : List zV) (M : zM) : zEv ph d 295 323 L st M = zcont ph d 295 (zstep ph (zEm ph d) 52 326 370 [] L st M) := zEv_step rfl
theorem e295_326 (ph : Bool) (d : Nat) (L st : List zV) (M : zM) : zEv ph d 295 326 L st M = zcont ph d 295 (zstep ph (zEm ph d) 0 327 0 [0] L st M) := zEv_step rfl
theorem e295_327 (ph : Bool) (d : Nat) (L st : List zV) (M : zM) : zEv ph d 295 327 L st M = zcont ph d 295 (zstep ph (zEm ph d) 52 330 370 [] L st M) := zEv_step rfl
theorem e295_330 (ph : Bool) (d : Nat) (L st : List zV) (M : zM) : zEv ph d 295 330 L st M = zcont ph d 295 (zstep ph (zEm ph d) 4 331 0 [0] L st M) := zEv_step rfl
theorem e295_331 (ph : Bool) (d : Nat) (L st : List zV) (M : zM) : zEv ph d 295 331 L st M = zcont ph d 295 (zstep ph (zEm ph d) 62 334 0 [30, 14, 2, 10, 368] L st M) := zEv_step rfl
theorem e295_334 (ph : Bool) (d : Nat) (L st : List zV) (M : zM) : zEv ph d 295 334 L st M = zcont ph d 295 (zstep ph (zEm ph d) 2 335 0 [3] L st M) := zEv_step rfl
theorem e295_335 (ph : Bool) (d : Nat) (L st : List zV) (M : zM) : zEv ph d 295 335 L st M = zcont ph d 295 (zstep ph (zEm ph d) 0 336 0 [3] L st M) := zEv_step rfl
theorem e295_336 (ph : Bool) (d : Nat) (L st : List zV) (M : zM) : zEv ph d 295 336 L st M = zcont ph d 295 (zstep ph (zEm ph d) 10 337 0 [] L st M) := zEv_step rfl
theorem e295_337 (ph : Bool) (d : Nat) (L st : List zV) (M : zM) : zEv ph d 295 337 L st M = zcont ph d 295 (zstep ph (zEm ph d) 85 338 0 [] L st M) := zEv_step rfl
theorem e295_338 (ph : Bool) (d : Nat) (L st : List zV) (M : zM) : zEv ph d 295 338 L st M = zcont ph d 295 (zstep ph (zEm ph d) 0 340 0 [61] L st M) := zEv_step rfl
theorem e295_340 (ph : Bool) (d : Nat) (L st : List zV) (M : zM) : zEv ph d 295 340 L st M = zcont ph d 295 (zstep ph (zEm ph d) 47 343 358 [] L st M) := zEv_step rfl
theorem e295_343 (ph : Bool) (d : Nat) (L st : List zV) (M : zM) : zEv ph d 295 343 L st M = zcont ph d 295 (zstep ph (zEm ph d) 2 345 0 [7] L st M) := zEv_step rfl
theorem e295_345 (ph : Bool) (d : Nat) (L st : List zV) (M : zM) : zEv ph d 295 345 L st M = zcont ph d 295 (zstep ph (zEm ph d) 2 347 0 [5] L st M) := zEv_step rfl
theorem e295_347 (ph : Bool) (d : Nat) (L st : List zV) (M : zM) : zEv ph d 295 347 L st M = zcont ph d 295 (zstep ph (zEm ph d) 47 350 354 [] L st M) := zEv_step rfl
theorem e295_350 (ph : Bool) (d : Nat) (L st : List zV) (M : zM) : zEv ph d 295 350 L st M = zcont ph d 295 (zstep ph (zEm ph d) 0 351 0 [1] L st M) := zEv_step rfl
theorem e295_351 (ph : Bool) (d : Nat) (L st : List zV) (M : zM) : zEv ph d 295 351 L st M = zcont ph d 295 (zstep ph (zEm ph d) 52 354 370 [] L st M) := zEv_step rfl
theorem e295_354 (ph : Bool) (d : Nat) (L st : List zV) (M : zM) : zEv ph d 295 354 L st M = zcont ph d 295 (zstep ph (zEm ph d) 0 355 0 [0] L st M) := zEv_step rfl
theorem e295_355 (ph : Bool) (d : Nat) (L st : List zV) (M : zM) : zEv ph d 295 355 L st M = zcont ph d 295 (zstep ph (zEm ph d) 52 358 370 [] L st M) := zEv_step rfl
theorem e295_358 (ph : Bool) (d : Nat) (L st : List zV) (M : zM) : zEv ph d 295 358 L st M = zcont ph d 295 (zstep ph (zEm ph d) 2 360 0 [7] L st M) := zEv_step rfl
theorem e295_360 (ph : Bool) (d : Nat) (L st : List zV) (M : zM) : zEv ph d 295 360 L st M = zcont ph d 295 (zstep ph (zEm ph d) 2 362 0 [5] L st M) := zEv_step rfl
theorem e295_362 (ph : Bool) (d : Nat) (L st : List zV) (M : zM) : zEv ph d 295 362 L st M = zcont ph d 295 (zstep ph (zEm ph d) 51 365 369 [] L st M) := zEv_step rfl
theorem e295_365 (ph : Bool) (d : Nat) (L st : List zV) (M : zM) : zEv ph d 295 365 L st M = zcont ph d 295 (zstep ph (zEm ph d) 0 366 0 [1] L st M) := zEv_step rfl
theorem e295_366 (ph : Bool) (d : Nat) (L st : List zV) (M : zM) : zEv ph d 295 366 L st M = zcont ph d 295 (zstep ph (zEm ph d) 52 369 370 [] L st M) := zEv_step rfl
theorem e295_369 (ph : Bool) (d : Nat) (L st : List zV) (M : zM) : zEv ph d 295 369 L st M = zcont ph d 295 (zstep ph (zEm ph d) 0 370 0 [0] L st M) := zEv_step rfl
theorem e295_370 (ph : Bool) (d : Nat) (L st : List zV) (M : zM) : zEv ph d 295 370 L st M = zcont ph d 295 (zstep ph (zEm ph d) 80 371 0 [0, 1] L st M) := zEv_step rfl
theorem m296 (ph : Bool) (d : Nat) (a x0 p0 y0 : Int) (M : zM) : zEm ph (d + 1) 296 [(30, a, x0), (0, p0, y0)] M = zEv ph d 296 0 [(30, a, x0), (0, p0, y0), (3, 0, 0), (3, 0, 0)] [] M := rfl
theorem e296_0 (ph : Bool) (d : Nat) (L st : List zV) (M : zM) : zEv ph d 296 0 L st M = zcont ph d 296 (zstep ph (zEm ph d) 4 1 0 [0] L st M) := zEv_step rfl
theorem e296_1 (ph : Bool) (d : Nat) (L st : List zV) (M : zM) : zEv ph d 296 1 L st M = zcont ph d 296 (zstep ph (zEm ph d) 0 2 0 [0] L st M) := zEv_step rfl
theorem e296_2 (ph : Bool) (d : Nat) (L st : List zV) (M : zM) : zEv ph d 296 2 L st M = zcont ph d 296 (zstep ph (zEm ph d) 65 5 0 [30, 0] L st M) := zEv_step rfl
theorem e296_5 (ph : Bool) (d : Nat) (L st : List zV) (M : zM) : zEv ph d 296 5 L st M = zcont ph d 296 (zstep ph (zEm ph d) 4 6 0 [0] L st M) := zEv_step rfl
theorem e296_6 (ph : Bool) (d : Nat) (L st : List zV) (M : zM) : zEv ph d 296 6 L st M = zcont ph d 296 (zstep ph (zEm ph d) 62 9 0 [30, 14, 2, 10, 368] L st M) := zEv_step rfl
theorem e296_9 (ph : Bool) (d : Nat) (L st : List zV) (M : zM) : zEv ph d 296 9 L st M = zcont ph d 296 (zstep ph (zEm ph d) 0 11 0 [126] L st M) := zEv_step rfl
theorem e296_11 (ph : Bool) (d : Nat) (L st : List zV) (M : zM) : zEv ph d 296 11 L st M = zcont ph d 296 (zstep ph (zEm ph d) 85 12 0 [] L st M) := zEv_step rfl
theorem e296_12 (ph : Bool) (d : Nat) (L st : List zV) (M : zM) : zEv ph d 296 12 L st M = zcont ph d 296 (zstep ph (zEm ph d) 41 15 17 [] L st M) := zEv_step rfl
theorem e296_15 (ph : Bool) (d : Nat) (L st : List zV) (M : zM) : zEv ph d 296 15 L st M = zcont ph d 296 (zstep ph (zEm ph d) 0 16 0 [-1] L st M) := zEv_step rfl
theorem e296_16 (ph : Bool) (d : Nat) (L st : List zV) (M : zM) : zEv ph d 296 16 L st M = zcont ph d 296 (zstep ph (zEm ph d) 80 17 0 [] L st M) := zEv_step rfl
theorem e296_17 (ph : Bool) (d : Nat) (L st : List zV) (M : zM) : zEv ph d 296 17 L st M = zcont ph d 296 (zstep ph (zEm ph d) 0 18 0 [0] L st M) := zEv_step rfl
theorem e296_18 (ph : Bool) (d : Nat) (L st : List zV) (M : zM) : zEv ph d 296 18 L st M = zcont ph d 296 (zstep ph (zEm ph d) 5 19 0 [2] L st M) := zEv_step rfl
theorem e296_19 (ph : Bool) (d : Nat) (L st : List zV) (M : zM) : zEv ph d 296 19 L st M = zcont ph d 296 (zstep ph (zEm ph d) 0 20 0 [0] L st M) := zEv_step rfl
theorem e296_20 (ph : Bool) (d : Nat) (L st : List zV) (M : zM) : zEv ph d 296 20 L st M = zcont ph d 296 (zstep ph (zEm ph d) 5 21 0 [3] L st M) := zEv_step rfl
theorem e296_21 (ph : Bool) (d : Nat) (L st : List zV) (M : zM) : zEv ph d 296 21 L st M = zcont ph d 296 (zstep ph (zEm ph d) 2 22 0 [3] L st M) := zEv_step rfl
theorem e296_22 (ph : Bool) (d : Nat) (L st : List zV) (M : zM) : zEv ph d 296 22 L st M = zcont ph d 296 (zstep ph (zEm ph d) 4 23 0 [0] L st M) := zEv_step rfl
theorem e296_23 (ph : Bool) (d : Nat) (L st : List zV) (M : zM) : zEv ph d 296 23 L st M = zcont ph d 296 (zstep ph (zEm ph d) 62 26 0 [30, 14, 2, 10, 368] L st M) := zEv_step rfl
theorem e296_26 (ph : Bool) (d : Nat) (L st : List zV) (M : zM) : zEv ph d 296 26 L st M = zcont ph d 296 (zstep ph (zEm ph d) 0 27 0 [1] L st M) := zEv_step rfl
theorem e296_27 (ph : Bool) (d : Nat) (L st : List zV) (M : zM) : zEv ph d 296 27 L st M = zcont ph d 296 (zstep ph (zEm ph d) 85 28 0 [] L st M) := zEv_step rfl
theorem e296_28 (ph : Bool) (d : Nat) (L st : List zV) (M : zM) : zEv ph d 296 28 L st M = zcont ph d 296 (zstep ph (zEm ph d) 49 31 65 [] L st M) := zEv_step rfl
theorem e296_31 (ph : Bool) (d : Nat) (L st : List zV) (M : zM) : zEv ph d 296 31 L st M = zcont ph d 296 (zstep ph (zEm ph d) 4 32 0 [0] L st M) := zEv_step rfl
theorem e296_32 (ph : Bool) (d : Nat) (L st : List zV) (M : zM) : zEv ph d 296 32 L st M = zcont ph d 296 (zstep ph (zEm ph d) 4 33 0 [0] L st M) := zEv_step rfl
theorem e296_33 (ph : Bool) (d : Nat) (L st : List zV) (M : zM) : zEv ph d 296 33 L st M = zcont ph d 296 (zstep ph (zEm ph d) 62 36 0 [30, 14, 2, 10, 368] L st M) := zEv_step rfl
theorem e296_36 (ph : Bool) (d : Nat) (L st : List zV) (M : zM) : zEv ph d 296 36 L st M = zcont ph d 296 (zstep ph (zEm ph d) 0 38 0 [127] L st M) := zEv_step rfl
theorem e296_38 (ph : Bool) (d : Nat) (L st : List zV) (M : zM) : zEv ph d 296 38 L st M = zcont ph d 296 (zstep ph (zEm ph d) 85 39 0 [] L st M) := zEv_step rfl
theorem e296_39 (ph : Bool) (d : Nat) (L st : List zV) (M : zM) : zEv ph d 296 39 L st M = zcont ph d 296 (zstep ph (zEm ph d) 2 40 0 [3] L st M) := zEv_step rfl
theorem e296_40 (ph : Bool) (d : Nat) (L st : List zV) (M : zM) : zEv ph d 296 40 L st M = zcont ph d 296 (zstep ph (zEm ph d) 70 43 295 [3, 1, 30] L st M) := zEv_step rfl
theorem e296_43 (ph : Bool) (d : Nat) (L st : List zV) (M : zM) : zEv ph d 296 43 L st M = zcont ph d 296 (zstep ph (zEm ph d) 41 46 49 [] L st M) := zEv_step rfl
theorem e296_46 (ph : Bool) (d : Nat) (L st : List zV) (M : zM) : zEv ph d 296 46 L st M = zcont ph d 296 (zstep ph (zEm ph d) 52 49 59 [] L st M) := zEv_step rfl
theorem e296_49 (ph : Bool) (d : Nat) (L st : List zV) (M : zM) : zEv ph d 296 49 L st M = zcont ph d 296 (zstep ph (zEm ph d) 2 50 0 [2] L st M) := zEv_step rfl
theorem e296_50 (ph : Bool) (d : Nat) (L st : List zV) (M : zM) : zEv ph d 296 50 L st M = zcont ph d 296 (zstep ph (zEm ph d) 2 51 0 [1] L st M) := zEv_step rfl
theorem e296_51 (ph : Bool) (d : Nat) (L st : List zV) (M : zM) : zEv ph d 296 51 L st M = zcont ph d 296 (zstep ph (zEm ph d) 47 54 56 [] L st M) := zEv_step rfl
theorem e296_54 (ph : Bool) (d : Nat) (L st : List zV) (M : zM) : zEv ph d 296 54 L st M = zcont ph d 296 (zstep ph (zEm ph d) 2 55 0 [3] L st M) := zEv_step rfl
theorem e296_55 (ph : Bool) (d : Nat) (L st : List zV) (M : zM) : zEv ph d 296 55 L st M = zcont ph d 296 (zstep ph (zEm ph d) 80 56 0 [] L st M) := zEv_step rfl
theorem e296_56 (ph : Bool) (d : Nat) (L st : List zV) (M : zM) : zEv ph d 296 56 L st M = zcont ph d 296 (zstep ph (zEm ph d) 8 59 0 [2, 1] L st M) := zEv_step rfl
theorem e296_59 (ph : Bool) (d : Nat) (L st : List zV) (M : zM) : zEv ph d 296 59 L st M = zcont ph d 296 (zstep ph (zEm ph d) 8 62 0 [3, 1] L st M) := zEv_step rfl
theorem e296_62 (ph : Bool) (d : Nat) (L st : List zV) (M : zM) : zEv ph d 296 62 L st M = zcont ph d 296 (zstep ph (zEm ph d) 52 65 21 [] L st M) := zEv_step rfl
theorem e296_65 (ph : Bool) (d : Nat) (L st : List zV) (M : zM) : zEv ph d 296 65 L st M = zcont ph d 296 (zstep ph (zEm ph d) 2 66 0 [1] L st M) := zEv_step rfl
theorem e296_66 (ph : Bool) (d : Nat) (L st : List zV) (M : zM) : zEv ph d 296 66 L st M = zcont ph d 296 (zstep ph (zEm ph d) 0 67 0 [-1] L st M) := zEv_step rfl
theorem e296_67 (ph : Bool) (d : Nat) (L st : List zV) (M : zM) : zEv ph d 296 67 L st M = zcont ph d 296 (zstep ph (zEm ph d) 47 70 74 [] L st M) := zEv_step rfl
theorem e296_70 (ph : Bool) (d : Nat) (L st : List zV) (M : zM) : zEv ph d 296 70 L st M = zcont ph d 296 (zstep ph (zEm ph d) 2 71 0 [2] L st M) := zEv_step rfl
theorem e296_71 (ph : Bool) (d : Nat) (L st : List zV) (M : zM) : zEv ph d 296 71 L st M = zcont ph d 296 (zstep ph (zEm ph d) 52 74 75 [] L st M) := zEv_step rfl
theorem e296_74 (ph : Bool) (d : Nat) (L st : List zV) (M : zM) : zEv ph d 296 74 L st M = zcont ph d 296 (zstep ph (zEm ph d) 0 75 0 [-1] L st M) := zEv_step rfl
theorem e296_75 (ph : Bool) (d : Nat) (L st : List zV) (M : zM) : zEv ph d 296 75 L st M = zcont ph d 296 (zstep ph (zEm ph d) 80 76 0 [] L st M) := zEv_step rfl
theorem s_compares (d : Nat) (v y1 sg y2 n y3 : Int) (M : zM) (hs : sg = 60 ∨ sg = 61 ∨ sg = 62) : zEm true (d + 1) 110 [(0, v, y1), (0, sg, y2), (0, n, y3)] M = some ((0, if cmpV v sg n = true then 1 else 0, 0), M) := by
  unfold cmpV
  rcases hs with rfl | rfl | rfl
  · by_cases c : v < n
    · simp (disch := first | assumption | exact zrm0 | exact zrm1 _ | exact zrm2 _ _ | exact zrm3 _ _ _ | exact zrm4 _ _ _ _ | omega) only [m110, ↓k_dp, ↓k_dn, k_dp, k_dn, k_dT, k_dF, k_ip, k_in, if_true, if_false, ne_eq, not_true_eq_false, not_false_eq_true, Int.reduceAdd, zup_a, zup_e, zup_j, z32_id, k_il1, k_ic, k_icne, k_il0, k_il2, k_icge, k_goto, k_rz, k_icle, e110_0, e110_1, e110_3, e110_6, e110_7, e110_8, e110_11, e110_12, e110_15, e110_16, e110_17, e110_18, e110_20, e110_23, e110_24, e110_25, e110_28, e110_29, e110_32, e110_33, e110_36, e110_37, e110_38, e110_41, e110_42, e110_45, e110_46, c, decide_true]
    · simp (disch := first | assumption | exact zrm0 | exact zrm1 _ | exact zrm2 _ _ | exact zrm3 _ _ _ | exact zrm4 _ _ _ _ | omega) only [m110, ↓k_dp, ↓k_dn, k_dp, k_dn, k_dT, k_dF, k_ip, k_in, if_true, if_false, ne_eq, not_true_eq_false, not_false_eq_true, Int.reduceAdd, zup_a, zup_e, zup_j, z32_id, k_il1, k_ic, k_icne, k_il0, k_il2, k_icge, k_goto, k_rz, k_icle, e110_0, e110_1, e110_3, e110_6, e110_7, e110_8, e110_11, e110_12, e110_15, e110_16, e110_17, e110_18, e110_20, e110_23, e110_24, e110_25, e110_28, e110_29, e110_32, e110_33, e110_36, e110_37, e110_38, e110_41, e110_42, e110_45, e110_46, c, decide_false, Bool.false_eq_true]
  · by_cases c : v = n
    · subst c
      simp (disch := first | assumption | exact zrm0 | exact zrm1 _ | exact zrm2 _ _ | exact zrm3 _ _ _ | exact zrm4 _ _ _ _ | omega) only [m110, ↓k_dp, ↓k_dn, k_dp, k_dn, k_dT, k_dF, k_ip, k_in, if_true, if_false, ne_eq, not_true_eq_false, not_false_eq_true, Int.reduceAdd, zup_a, zup_e, zup_j, z32_id, k_il1, k_ic, k_icne, k_il0, k_il2, k_icge, k_goto, k_rz, k_icle, e110_0, e110_1, e110_3, e110_6, e110_7, e110_8, e110_11, e110_12, e110_15, e110_16, e110_17, e110_18, e110_20, e110_23, e110_24, e110_25, e110_28, e110_29, e110_32, e110_33, e110_36, e110_37, e110_38, e110_41, e110_42, e110_45, e110_46, decide_true]
    · simp (disch := first | assumption | exact zrm0 | exact zrm1 _ | exact zrm2 _ _ | exact zrm3 _ _ _ | exact zrm4 _ _ _ _ | omega) only [m110, ↓k_dp, ↓k_dn, k_dp, k_dn, k_dT, k_dF, k_ip, k_in, if_true, if_false, ne_eq, not_true_eq_false, not_false_eq_true, Int.reduceAdd, zup_a, zup_e, zup_j, z32_id, k_il1, k_ic, k_icne, k_il0, k_il2, k_icge, k_goto, k_rz, k_icle, e110_0, e110_1, e110_3, e110_6, e110_7, e110_8, e110_11, e110_12, e110_15, e110_16, e110_17, e110_18, e110_20, e110_23, e110_24, e110_25, e110_28, e110_29, e110_32, e110_33, e110_36, e110_37, e110_38, e110_41, e110_42, e110_45, e110_46, c, decide_false, Bool.false_eq_true]
  · by_cases c : n < v
    · simp (disch := first | assumption | exact zrm0 | exact zrm1 _ | exact zrm2 _ _ | exact zrm3 _ _ _ | exact zrm4 _ _ _ _ | omega) only [m110, ↓k_dp, ↓k_dn, k_dp, k_dn, k_dT, k_dF, k_ip, k_in, if_true, if_false, ne_eq, not_true_eq_false, not_false_eq_true, Int.reduceAdd, zup_a, zup_e, zup_j, z32_id, k_il1, k_ic, k_icne, k_il0, k_il2, k_icge, k_goto, k_rz, k_icle, e110_0, e110_1, e110_3, e110_6, e110_7, e110_8, e110_11, e110_12, e110_15, e110_16, e110_17, e110_18, e110_20, e110_23, e110_24, e110_25, e110_28, e110_29, e110_32, e110_33, e110_36, e110_37, e110_38, e110_41, e110_42, e110_45, e110_46, c, decide_true]
    · simp (disch := first | assumption | exact zrm0 | exact zrm1 _ | exact zrm2 _ _ | exact zrm3 _ _ _ | exact zrm4 _ _ _ _ | omega) only [m110, ↓k_dp, ↓k_dn, k_dp, k_dn, k_dT, k_dF, k_ip, k_in, if_true, if_false, ne_eq, not_true_eq_false, not_false_eq_true, Int.reduceAdd, zup_a, zup_e, zup_j, z32_id, k_il1, k_ic, k_icne, k_il0, k_il2, k_icge, k_goto, k_rz, k_icle, e110_0, e110_1, e110_3, e110_6, e110_7, e110_8, e110_11, e110_12, e110_15, e110_16, e110_17, e110_18, e110_20, e110_23, e110_24, e110_25, e110_28, e110_29, e110_32, e110_33, e110_36, e110_37, e110_38, e110_41, e110_42, e110_45, e110_46, c, decide_false, Bool.false_eq_true]
def leafK (kd nu sg : Int) : Prop := (3 ≤ kd ∧ kd ≤ 10) ∧ (6 ≤ kd → kd ≤ 7 → 0 ≤ nu ∧ nu < 5) ∧ (8 ≤ kd → sg = 60 ∨ sg = 61 ∨ sg = 62)
theorem s_holds (d : Nat) (x0 x1 x2 i y h y2 : Int) (M : zM) (i0 : 0 ≤ i) (i1 : i < 40) (h0 : 0 ≤ h) (h1 : h < 10) (h2 : h < M 30 7) (hk : leafK (M 47 i) (M 48 i) (M 49 i)) : zEm true (d + 2) 109 [(25, 46, x0), (28, 30, x1), (26, 37, x2), (0, i, y), (0, h, y2)] M = some ((0, if leafV (zvS M 37) (zvG M 30) (M 47 i) (M 48 i) (M 49 i) h = true then 1 else 0, 0), M) := by
  obtain ⟨⟨k3, k4⟩, kf, kc⟩ := hk
  unfold leafV
  have e8 : zvS M 37 0 8 = M 37 8 := zvS_0 (by omega) (by omega)
  have e9 : zvG M 30 0 9 = M 30 9 := zvG_0 (by omega) (by omega)
  have e4 : zvG M 30 4 h = M 34 h := zvG_4 h0 h1 h2
  have e1 : zvS M 37 1 h = M 38 h := zvS_1 h0 h1
  have e2 : zvS M 37 2 h = M 39 h := zvS_2 h0 h1
  rcases (show M 47 i = 3 ∨ M 47 i = 4 ∨ M 47 i = 5 ∨ M 47 i = 6 ∨ M 47 i = 7 ∨ M 47 i = 8 ∨ M 47 i = 9 ∨ M 47 i = 10 by omega) with k | k | k | k | k | k | k | k
  · rw [k, e8]
    by_cases c : zbit (M 37 8) h = 0
    · simp (disch := first | assumption | exact zrm0 | exact zrm1 _ | exact zrm2 _ _ | exact zrm3 _ _ _ | exact zrm4 _ _ _ _ | omega) only [m109, ↓k_dp, ↓k_dn, k_dp, k_dn, k_dT, k_dF, k_ip, k_in, if_true, if_false, ne_eq, not_true_eq_false, not_false_eq_true, Int.reduceAdd, zup_a, zup_e, zup_j, z32_id, k_al0, k_gR, k_il3, k_ild, k_ildS, k_ildW, k_al2, k_il4, k_v2r, k_rz, k_al1, k_icne, k_ic, k_goto, k_v3r, k_s3r, zb0_some, zb1_some, e109_0, e109_1, e109_4, e109_5, e109_6, e109_52, e109_53, e109_55, e109_58, e109_59, e109_60, e109_62, e109_65, e109_66, e109_67, e109_70, e109_72, e109_73, e109_74, e109_77, e109_78, e109_79, e109_82, e109_83, e109_86, e109_87, e109_88, e109_89, e109_91, e109_92, e109_95, e109_96, e109_97, e109_100, e109_101, e109_102, e109_104, e109_105, e109_108, e109_109, e109_110, e109_113, e109_114, e109_115, e109_118, e109_120, e109_121, e109_122, e109_125, e109_126, e109_127, e109_128, e109_131, e109_132, e109_133, e109_136, e109_137, e109_138, e109_141, e109_143, e109_144, e109_145, e109_148, e109_149, e109_150, e109_151, e109_154, e109_155, e109_156, e109_159, e109_160, e109_162, e109_163, e109_166, e109_167, e109_168, e109_169, e109_172, e109_173, e109_174, e109_177, e109_178, e109_179, k, s_isSilent, c, decide_false, Bool.false_eq_true]
    · simp (disch := first | assumption | exact zrm0 | exact zrm1 _ | exact zrm2 _ _ | exact zrm3 _ _ _ | exact zrm4 _ _ _ _ | omega) only [m109, ↓k_dp, ↓k_dn, k_dp, k_dn, k_dT, k_dF, k_ip, k_in, if_true, if_false, ne_eq, not_true_eq_false, not_false_eq_true, Int.reduceAdd, zup_a, zup_e, zup_j, z32_id, k_al0, k_gR, k_il3, k_ild, k_ildS, k_ildW, k_al2, k_il4, k_v2r, k_rz, k_al1, k_icne, k_ic, k_goto, k_v3r, k_s3r, zb0_some, zb1_some, e109_0, e109_1, e109_4, e109_5, e109_6, e109_52, e109_53, e109_55, e109_58, e109_59, e109_60, e109_62, e109_65, e109_66, e109_67, e109_70, e109_72, e109_73, e109_74, e109_77, e109_78, e109_79, e109_82, e109_83, e109_86, e109_87, e109_88, e109_89, e109_91, e109_92, e109_95, e109_96, e109_97, e109_100, e109_101, e109_102, e109_104, e109_105, e109_108, e109_109, e109_110, e109_113, e109_114, e109_115, e109_118, e109_120, e109_121, e109_122, e109_125, e109_126, e109_127, e109_128, e109_131, e109_132, e109_133, e109_136, e109_137, e109_138, e109_141, e109_143, e109_144, e109_145, e109_148, e109_149, e109_150, e109_151, e109_154, e109_155, e109_156, e109_159, e109_160, e109_162, e109_163, e109_166, e109_167, e109_168, e109_169, e109_172, e109_173, e109_174, e109_177, e109_178, e109_179, k, s_isSilent, c, decide_true]
  · rw [k, e9]
    by_cases c : zbit (M 30 9) h = 0
    · simp (disch := first | assumption | exact zrm0 | exact zrm1 _ | exact zrm2 _ _ | exact zrm3 _ _ _ | exact zrm4 _ _ _ _ | omega) only [m109, ↓k_dp, ↓k_dn, k_dp, k_dn, k_dT, k_dF, k_ip, k_in, if_true, if_false, ne_eq, not_true_eq_false, not_false_eq_true, Int.reduceAdd, zup_a, zup_e, zup_j, z32_id, k_al0, k_gR, k_il3, k_ild, k_ildS, k_ildW, k_al2, k_il4, k_v2r, k_rz, k_al1, k_icne, k_ic, k_goto, k_v3r, k_s3r, zb0_some, zb1_some, e109_0, e109_1, e109_4, e109_5, e109_6, e109_52, e109_53, e109_55, e109_58, e109_59, e109_60, e109_62, e109_65, e109_66, e109_67, e109_70, e109_72, e109_73, e109_74, e109_77, e109_78, e109_79, e109_82, e109_83, e109_86, e109_87, e109_88, e109_89, e109_91, e109_92, e109_95, e109_96, e109_97, e109_100, e109_101, e109_102, e109_104, e109_105, e109_108, e109_109, e109_110, e109_113, e109_114, e109_115, e109_118, e109_120, e109_121, e109_122, e109_125, e109_126, e109_127, e109_128, e109_131, e109_132, e109_133, e109_136, e109_137, e109_138, e109_141, e109_143, e109_144, e109_145, e109_148, e109_149, e109_150, e109_151, e109_154, e109_155, e109_156, e109_159, e109_160, e109_162, e109_163, e109_166, e109_167, e109_168, e109_169, e109_172, e109_173, e109_174, e109_177, e109_178, e109_179, k, s_isChild, c, decide_false, Bool.false_eq_true]
    · simp (disch := first | assumption | exact zrm0 | exact zrm1 _ | exact zrm2 _ _ | exact zrm3 _ _ _ | exact zrm4 _ _ _ _ | omega) only [m109, ↓k_dp, ↓k_dn, k_dp, k_dn, k_dT, k_dF, k_ip, k_in, if_true, if_false, ne_eq, not_true_eq_false, not_false_eq_true, Int.reduceAdd, zup_a, zup_e, zup_j, z32_id, k_al0, k_gR, k_il3, k_ild, k_ildS, k_ildW, k_al2, k_il4, k_v2r, k_rz, k_al1, k_icne, k_ic, k_goto, k_v3r, k_s3r, zb0_some, zb1_some, e109_0, e109_1, e109_4, e109_5, e109_6, e109_52, e109_53, e109_55, e109_58, e109_59, e109_60, e109_62, e109_65, e109_66, e109_67, e109_70, e109_72, e109_73, e109_74, e109_77, e109_78, e109_79, e109_82, e109_83, e109_86, e109_87, e109_88, e109_89, e109_91, e109_92, e109_95, e109_96, e109_97, e109_100, e109_101, e109_102, e109_104, e109_105, e109_108, e109_109, e109_110, e109_113, e109_114, e109_115, e109_118, e109_120, e109_121, e109_122, e109_125, e109_126, e109_127, e109_128, e109_131, e109_132, e109_133, e109_136, e109_137, e109_138, e109_141, e109_143, e109_144, e109_145, e109_148, e109_149, e109_150, e109_151, e109_154, e109_155, e109_156, e109_159, e109_160, e109_162, e109_163, e109_166, e109_167, e109_168, e109_169, e109_172, e109_173, e109_174, e109_177, e109_178, e109_179, k, s_isChild, c, decide_true]
  · rw [k, e4]
    by_cases c : M 34 h = M 48 i
    · simp (disch := first | assumption | exact zrm0 | exact zrm1 _ | exact zrm2 _ _ | exact zrm3 _ _ _ | exact zrm4 _ _ _ _ | omega) only [m109, ↓k_dp, ↓k_dn, k_dp, k_dn, k_dT, k_dF, k_ip, k_in, if_true, if_false, ne_eq, not_true_eq_false, not_false_eq_true, Int.reduceAdd, zup_a, zup_e, zup_j, z32_id, k_al0, k_gR, k_il3, k_ild, k_ildS, k_ildW, k_al2, k_il4, k_v2r, k_rz, k_al1, k_icne, k_ic, k_goto, k_v3r, k_s3r, zb0_some, zb1_some, e109_0, e109_1, e109_4, e109_5, e109_6, e109_52, e109_53, e109_55, e109_58, e109_59, e109_60, e109_62, e109_65, e109_66, e109_67, e109_70, e109_72, e109_73, e109_74, e109_77, e109_78, e109_79, e109_82, e109_83, e109_86, e109_87, e109_88, e109_89, e109_91, e109_92, e109_95, e109_96, e109_97, e109_100, e109_101, e109_102, e109_104, e109_105, e109_108, e109_109, e109_110, e109_113, e109_114, e109_115, e109_118, e109_120, e109_121, e109_122, e109_125, e109_126, e109_127, e109_128, e109_131, e109_132, e109_133, e109_136, e109_137, e109_138, e109_141, e109_143, e109_144, e109_145, e109_148, e109_149, e109_150, e109_151, e109_154, e109_155, e109_156, e109_159, e109_160, e109_162, e109_163, e109_166, e109_167, e109_168, e109_169, e109_172, e109_173, e109_174, e109_177, e109_178, e109_179, k, c, decide_true]
    · simp (disch := first | assumption | exact zrm0 | exact zrm1 _ | exact zrm2 _ _ | exact zrm3 _ _ _ | exact zrm4 _ _ _ _ | omega) only [m109, ↓k_dp, ↓k_dn, k_dp, k_dn, k_dT, k_dF, k_ip, k_in, if_true, if_false, ne_eq, not_true_eq_false, not_false_eq_true, Int.reduceAdd, zup_a, zup_e, zup_j, z32_id, k_al0, k_gR, k_il3, k_ild, k_ildS, k_ildW, k_al2, k_il4, k_v2r, k_rz, k_al1, k_icne, k_ic, k_goto, k_v3r, k_s3r, zb0_some, zb1_some, e109_0, e109_1, e109_4, e109_5, e109_6, e109_52, e109_53, e109_55, e109_58, e109_59, e109_60, e109_62, e109_65, e109_66, e109_67, e109_70, e109_72, e109_73, e109_74, e109_77, e109_78, e109_79, e109_82, e109_83, e109_86, e109_87, e109_88, e109_89, e109_91, e109_92, e109_95, e109_96, e109_97, e109_100, e109_101, e109_102, e109_104, e109_105, e109_108, e109_109, e109_110, e109_113, e109_114, e109_115, e109_118, e109_120, e109_121, e109_122, e109_125, e109_126, e109_127, e109_128, e109_131, e109_132, e109_133, e109_136, e109_137, e109_138, e109_141, e109_143, e109_144, e109_145, e109_148, e109_149, e109_150, e109_151, e109_154, e109_155, e109_156, e109_159, e109_160, e109_162, e109_163, e109_166, e109_167, e109_168, e109_169, e109_172, e109_173, e109_174, e109_177, e109_178, e109_179, k, c, decide_false, Bool.false_eq_true]
  · obtain ⟨f1, f2⟩ := kf (by omega) (by omega)
    rw [k]
    by_cases c : zbit (zvS M 37 3 (M 48 i)) h = 0
    · simp (disch := first | assumption | exact zrm0 | exact zrm1 _ | exact zrm2 _ _ | exact zrm3 _ _ _ | exact zrm4 _ _ _ _ | omega) only [m109, ↓k_dp, ↓k_dn, k_dp, k_dn, k_dT, k_dF, k_ip, k_in, if_true, if_false, ne_eq, not_true_eq_false, not_false_eq_true, Int.reduceAdd, zup_a, zup_e, zup_j, z32_id, k_al0, k_gR, k_il3, k_ild, k_ildS, k_ildW, k_al2, k_il4, k_v2r, k_rz, k_al1, k_icne, k_ic, k_goto, k_v3r, k_s3r, zb0_some, zb1_some, e109_0, e109_1, e109_4, e109_5, e109_6, e109_52, e109_53, e109_55, e109_58, e109_59, e109_60, e109_62, e109_65, e109_66, e109_67, e109_70, e109_72, e109_73, e109_74, e109_77, e109_78, e109_79, e109_82, e109_83, e109_86, e109_87, e109_88, e109_89, e109_91, e109_92, e109_95, e109_96, e109_97, e109_100, e109_101, e109_102, e109_104, e109_105, e109_108, e109_109, e109_110, e109_113, e109_114, e109_115, e109_118, e109_120, e109_121, e109_122, e109_125, e109_126, e109_127, e109_128, e109_131, e109_132, e109_133, e109_136, e109_137, e109_138, e109_141, e109_143, e109_144, e109_145, e109_148, e109_149, e109_150, e109_151, e109_154, e109_155, e109_156, e109_159, e109_160, e109_162, e109_163, e109_166, e109_167, e109_168, e109_169, e109_172, e109_173, e109_174, e109_177, e109_178, e109_179, k, s_wantsLeft, c, decide_false, Bool.false_eq_true]
    · simp (disch := first | assumption | exact zrm0 | exact zrm1 _ | exact zrm2 _ _ | exact zrm3 _ _ _ | exact zrm4 _ _ _ _ | omega) only [m109, ↓k_dp, ↓k_dn, k_dp, k_dn, k_dT, k_dF, k_ip, k_in, if_true, if_false, ne_eq, not_true_eq_false, not_false_eq_true, Int.reduceAdd, zup_a, zup_e, zup_j, z32_id, k_al0, k_gR, k_il3, k_ild, k_ildS, k_ildW, k_al2, k_il4, k_v2r, k_rz, k_al1, k_icne, k_ic, k_goto, k_v3r, k_s3r, zb0_some, zb1_some, e109_0, e109_1, e109_4, e109_5, e109_6, e109_52, e109_53, e109_55, e109_58, e109_59, e109_60, e109_62, e109_65, e109_66, e109_67, e109_70, e109_72, e109_73, e109_74, e109_77, e109_78, e109_79, e109_82, e109_83, e109_86, e109_87, e109_88, e109_89, e109_91, e109_92, e109_95, e109_96, e109_97, e109_100, e109_101, e109_102, e109_104, e109_105, e109_108, e109_109, e109_110, e109_113, e109_114, e109_115, e109_118, e109_120, e109_121, e109_122, e109_125, e109_126, e109_127, e109_128, e109_131, e109_132, e109_133, e109_136, e109_137, e109_138, e109_141, e109_143, e109_144, e109_145, e109_148, e109_149, e109_150, e109_151, e109_154, e109_155, e109_156, e109_159, e109_160, e109_162, e109_163, e109_166, e109_167, e109_168, e109_169, e109_172, e109_173, e109_174, e109_177, e109_178, e109_179, k, s_wantsLeft, c, decide_true]
  · obtain ⟨f1, f2⟩ := kf (by omega) (by omega)
    rw [k]
    by_cases c : zbit (zvS M 37 4 (M 48 i)) h = 0
    · simp (disch := first | assumption | exact zrm0 | exact zrm1 _ | exact zrm2 _ _ | exact zrm3 _ _ _ | exact zrm4 _ _ _ _ | omega) only [m109, ↓k_dp, ↓k_dn, k_dp, k_dn, k_dT, k_dF, k_ip, k_in, if_true, if_false, ne_eq, not_true_eq_false, not_false_eq_true, Int.reduceAdd, zup_a, zup_e, zup_j, z32_id, k_al0, k_gR, k_il3, k_ild, k_ildS, k_ildW, k_al2, k_il4, k_v2r, k_rz, k_al1, k_icne, k_ic, k_goto, k_v3r, k_s3r, zb0_some, zb1_some, e109_0, e109_1, e109_4, e109_5, e109_6, e109_52, e109_53, e109_55, e109_58, e109_59, e109_60, e109_62, e109_65, e109_66, e109_67, e109_70, e109_72, e109_73, e109_74, e109_77, e109_78, e109_79, e109_82, e109_83, e109_86, e109_87, e109_88, e109_89, e109_91, e109_92, e109_95, e109_96, e109_97, e109_100, e109_101, e109_102, e109_104, e109_105, e109_108, e109_109, e109_110, e109_113, e109_114, e109_115, e109_118, e109_120, e109_121, e109_122, e109_125, e109_126, e109_127, e109_128, e109_131, e109_132, e109_133, e109_136, e109_137, e109_138, e109_141, e109_143, e109_144, e109_145, e109_148, e109_149, e109_150, e109_151, e109_154, e109_155, e109_156, e109_159, e109_160, e109_162, e109_163, e109_166, e109_167, e109_168, e109_169, e109_172, e109_173, e109_174, e109_177, e109_178, e109_179, k, s_wantsRight, c, decide_false, Bool.false_eq_true]
    · simp (disch := first | assumption | exact zrm0 | exact zrm1 _ | exact zrm2 _ _ | exact zrm3 _ _ _ | exact zrm4 _ _ _ _ | omega) only [m109, ↓k_dp, ↓k_dn, k_dp, k_dn, k_dT, k_dF, k_ip, k_in, if_true, if_false, ne_eq, not_true_eq_false, not_false_eq_true, Int.reduceAdd, zup_a, zup_e, zup_j, z32_id, k_al0, k_gR, k_il3, k_ild, k_ildS, k_ildW, k_al2, k_il4, k_v2r, k_rz, k_al1, k_icne, k_ic, k_goto, k_v3r, k_s3r, zb0_some, zb1_some, e109_0, e109_1, e109_4, e109_5, e109_6, e109_52, e109_53, e109_55, e109_58, e109_59, e109_60, e109_62, e109_65, e109_66, e109_67, e109_70, e109_72, e109_73, e109_74, e109_77, e109_78, e109_79, e109_82, e109_83, e109_86, e109_87, e109_88, e109_89, e109_91, e109_92, e109_95, e109_96, e109_97, e109_100, e109_101, e109_102, e109_104, e109_105, e109_108, e109_109, e109_110, e109_113, e109_114, e109_115, e109_118, e109_120, e109_121, e109_122, e109_125, e109_126, e109_127, e109_128, e109_131, e109_132, e109_133, e109_136, e109_137, e109_138, e109_141, e109_143, e109_144, e109_145, e109_148, e109_149, e109_150, e109_151, e109_154, e109_155, e109_156, e109_159, e109_160, e109_162, e109_163, e109_166, e109_167, e109_168, e109_169, e109_172, e109_173, e109_174, e109_177, e109_178, e109_179, k, s_wantsRight, c, decide_true]
  · have ks := kc (by omega)
    rw [k, e1]
    simp (disch := first | assumption | exact zrm0 | exact zrm1 _ | exact zrm2 _ _ | exact zrm3 _ _ _ | exact zrm4 _ _ _ _ | omega) only [m109, ↓k_dp, ↓k_dn, k_dp, k_dn, k_dT, k_dF, k_ip, k_in, if_true, if_false, ne_eq, not_true_eq_false, not_false_eq_true, Int.reduceAdd, zup_a, zup_e, zup_j, z32_id, k_al0, k_gR, k_il3, k_ild, k_ildS, k_ildW, k_al2, k_il4, k_v2r, k_rz, k_al1, k_icne, k_ic, k_goto, k_v3r, k_s3r, zb0_some, zb1_some, e109_0, e109_1, e109_4, e109_5, e109_6, e109_52, e109_53, e109_55, e109_58, e109_59, e109_60, e109_62, e109_65, e109_66, e109_67, e109_70, e109_72, e109_73, e109_74, e109_77, e109_78, e109_79, e109_82, e109_83, e109_86, e109_87, e109_88, e109_89, e109_91, e109_92, e109_95, e109_96, e109_97, e109_100, e109_101, e109_102, e109_104, e109_105, e109_108, e109_109, e109_110, e109_113, e109_114, e109_115, e109_118, e109_120, e109_121, e109_122, e109_125, e109_126, e109_127, e109_128, e109_131, e109_132, e109_133, e109_136, e109_137, e109_138, e109_141, e109_143, e109_144, e109_145, e109_148, e109_149, e109_150, e109_151, e109_154, e109_155, e109_156, e109_159, e109_160, e109_162, e109_163, e109_166, e109_167, e109_168, e109_169, e109_172, e109_173, e109_174, e109_177, e109_178, e109_179, k, s_compares]
  · have ks := kc (by omega)
    rw [k, e2]
    simp (disch := first | assumption | exact zrm0 | exact zrm1 _ | exact zrm2 _ _ | exact zrm3 _ _ _ | exact zrm4 _ _ _ _ | omega) only [m109, ↓k_dp, ↓k_dn, k_dp, k_dn, k_dT, k_dF, k_ip, k_in, if_true, if_false, ne_eq, not_true_eq_false, not_false_eq_true, Int.reduceAdd, zup_a, zup_e, zup_j, z32_id, k_al0, k_gR, k_il3, k_ild, k_ildS, k_ildW, k_al2, k_il4, k_v2r, k_rz, k_al1, k_icne, k_ic, k_goto, k_v3r, k_s3r, zb0_some, zb1_some, e109_0, e109_1, e109_4, e109_5, e109_6, e109_52, e109_53, e109_55, e109_58, e109_59, e109_60, e109_62, e109_65, e109_66, e109_67, e109_70, e109_72, e109_73, e109_74, e109_77, e109_78, e109_79, e109_82, e109_83, e109_86, e109_87, e109_88, e109_89, e109_91, e109_92, e109_95, e109_96, e109_97, e109_100, e109_101, e109_102, e109_104, e109_105, e109_108, e109_109, e109_110, e109_113, e109_114, e109_115, e109_118, e109_120, e109_121, e109_122, e109_125, e109_126, e109_127, e109_128, e109_131, e109_132, e109_133, e109_136, e109_137, e109_138, e109_141, e109_143, e109_144, e109_145, e109_148, e109_149, e109_150, e109_151, e109_154, e109_155, e109_156, e109_159, e109_160, e109_162, e109_163, e109_166, e109_167, e109_168, e109_169, e109_172, e109_173, e109_174, e109_177, e109_178, e109_179, k, s_compares]
  · have ks := kc (by omega)
    rw [k]
    simp (disch := first | assumption | exact zrm0 | exact zrm1 _ | exact zrm2 _ _ | exact zrm3 _ _ _ | exact zrm4 _ _ _ _ | omega) only [m109, ↓k_dp, ↓k_dn, k_dp, k_dn, k_dT, k_dF, k_ip, k_in, if_true, if_false, ne_eq, not_true_eq_false, not_false_eq_true, Int.reduceAdd, zup_a, zup_e, zup_j, z32_id, k_al0, k_gR, k_il3, k_ild, k_ildS, k_ildW, k_al2, k_il4, k_v2r, k_rz, k_al1, k_icne, k_ic, k_goto, k_v3r, k_s3r, zb0_some, zb1_some, e109_0, e109_1, e109_4, e109_5, e109_6, e109_52, e109_53, e109_55, e109_58, e109_59, e109_60, e109_62, e109_65, e109_66, e109_67, e109_70, e109_72, e109_73, e109_74, e109_77, e109_78, e109_79, e109_82, e109_83, e109_86, e109_87, e109_88, e109_89, e109_91, e109_92, e109_95, e109_96, e109_97, e109_100, e109_101, e109_102, e109_104, e109_105, e109_108, e109_109, e109_110, e109_113, e109_114, e109_115, e109_118, e109_120, e109_121, e109_122, e109_125, e109_126, e109_127, e109_128, e109_131, e109_132, e109_133, e109_136, e109_137, e109_138, e109_141, e109_143, e109_144, e109_145, e109_148, e109_149, e109_150, e109_151, e109_154, e109_155, e109_156, e109_159, e109_160, e109_162, e109_163, e109_166, e109_167, e109_168, e109_169, e109_172, e109_173, e109_174, e109_177, e109_178, e109_179, k, s_compares]
theorem s_hStep0 (d : Nat) (x0 x1 x2 i y : Int) (M : zM) (i0 : 0 ≤ i) (i1 : i < 40) (g2 : M 30 7 ≤ 10) (hk : leafK (M 47 i) (M 48 i) (M 49 i)) : ∀ (j : Nat) (h s : Int), h + j = M 30 7 → 0 ≤ h → setOf h s (leafV (zvS M 37) (zvG M 30) (M 47 i) (M 48 i) (M 49 i)) → ∃ s', zEv true (d + 2) 108 6 [(25, 46, x0), (28, 30, x1), (26, 37, x2), (0, i, y), (0, s, 0), (0, h, 0)] [] M = some ((0, s', 0), M) ∧ setOf (M 30 7) s' (leafV (zvS M 37) (zvG M 30) (M 47 i) (M 48 i) (M 49 i))
  | 0, h, s, hh, h0, hs => by
    have e : h = M 30 7 := by omega
    refine ⟨s, ?_, by rw [← e]; exact hs⟩
    rw [e108_6]
    simp (disch := first | assumption | exact zrm0 | exact zrm1 _ | exact zrm2 _ _ | exact zrm3 _ _ _ | exact zrm4 _ _ _ _ | omega) only [m108, ↓k_dp, ↓k_dn, k_dp, k_dn, k_dT, k_dF, k_ip, k_in, if_true, if_false, ne_eq, not_true_eq_false, not_false_eq_true, Int.reduceAdd, zup_a, zup_e, zup_j, z32_id, k_ic, k_is4, k_is5, k_il5, k_al1, k_gI, k_icge, k_al0, k_al2, k_il3, k_v5r, k_ifeq, k_il4, k_ishl, k_ior, k_inc5, k_goto, k_ri, zb0_some, zb1_some, e108_0, e108_1, e108_3, e108_4, e108_8, e108_9, e108_12, e108_15, e108_16, e108_17, e108_18, e108_19, e108_21, e108_24, e108_27, e108_29, e108_30, e108_32, e108_33, e108_34, e108_36, e108_39, e108_42, e108_44]
  | j + 1, h, s, hh, h0, hs => by
    obtain ⟨s', a1, a2⟩ := s_hStep0 d x0 x1 x2 i y M i0 i1 g2 hk j (h + 1) _ (by omega) (by omega) (setOf_step h0 (by omega) hs)
    refine ⟨s', ?_, a2⟩
    have hh2 := s_holds d x0 x1 x2 i 0 h 0 M i0 i1 h0 (by omega) (by omega) hk
    rw [← a1]
    generalize leafV (zvS M 37) (zvG M 30) (M 47 i) (M 48 i) (M 49 i) = pf at *
    by_cases c : pf h = true
    · rw [if_pos c] at hh2 ⊢
      rw [e108_6]
      simp (disch := first | assumption | exact zrm0 | exact zrm1 _ | exact zrm2 _ _ | exact zrm3 _ _ _ | exact zrm4 _ _ _ _ | omega) only [m108, ↓k_dp, ↓k_dn, k_dp, k_dn, k_dT, k_dF, k_ip, k_in, if_true, if_false, ne_eq, not_true_eq_false, not_false_eq_true, Int.reduceAdd, zup_a, zup_e, zup_j, z32_id, k_ic, k_is4, k_is5, k_il5, k_al1, k_gI, k_icge, k_al0, k_al2, k_il3, k_v5r, k_ifeq, k_il4, k_ishl, k_ior, k_inc5, k_goto, k_ri, zb0_some, zb1_some, e108_0, e108_1, e108_3, e108_4, e108_8, e108_9, e108_12, e108_15, e108_16, e108_17, e108_18, e108_19, e108_21, e108_24, e108_27, e108_29, e108_30, e108_32, e108_33, e108_34, e108_36, e108_39, e108_42, e108_44, hh2]
    · rw [if_neg c] at hh2 ⊢
      rw [e108_6]
      simp (disch := first | assumption | exact zrm0 | exact zrm1 _ | exact zrm2 _ _ | exact zrm3 _ _ _ | exact zrm4 _ _ _ _ | omega) only [m108, ↓k_dp, ↓k_dn, k_dp, k_dn, k_dT, k_dF, k_ip, k_in, if_true, if_false, ne_eq, not_true_eq_false, not_false_eq_true, Int.reduceAdd, zup_a, zup_e, zup_j, z32_id, k_ic, k_is4, k_is5, k_il5, k_al1, k_gI, k_icge, k_al0, k_al2, k_il3, k_v5r, k_ifeq, k_il4, k_ishl, k_ior, k_inc5, k_goto, k_ri, zb0_some, zb1_some, e108_0, e108_1, e108_3, e108_4, e108_8, e108_9, e108_12, e108_15, e108_16, e108_17, e108_18, e108_19, e108_21, e108_24, e108_27, e108_29, e108_30, e108_32, e108_33, e108_34, e108_36, e108_39, e108_42, e108_44, hh2]
theorem s_handsOfStep (d : Nat) (x0 x1 x2 i y : Int) (M : zM) (i0 : 0 ≤ i) (i1 : i < 40) (g1 : 0 ≤ M 30 7) (g2 : M 30 7 ≤ 10) (hk : leafK (M 47 i) (M 48 i) (M 49 i)) : ∃ s, zEm true (d + 3) 108 [(25, 46, x0), (28, 30, x1), (26, 37, x2), (0, i, y)] M = some ((0, s, 0), M) ∧ setOf (M 30 7) s (leafV (zvS M 37) (zvG M 30) (M 47 i) (M 48 i) (M 49 i)) := by
  obtain ⟨s, a1, a2⟩ := s_hStep0 d x0 x1 x2 i y M i0 i1 g2 hk (M 30 7).toNat 0 0 (by omega) (Int.le_refl _) ⟨by omega, fun h h0 h1 => by
    have hz : ((List.range 10).all fun h => decide (zbit 0 h = 0)) = true := by decide
    rw [List.all_eq_true] at hz
    have := hz h.toNat (List.mem_range.mpr (by omega))
    rw [Int.toNat_of_nonneg h0, decide_eq_true_eq] at this
    rw [this]
    constructor
    · intro z; exact absurd rfl z
    · rintro ⟨a, -⟩; omega⟩
  refine ⟨s, ?_, a2⟩
  simp (disch := first | assumption | exact zrm0 | exact zrm1 _ | exact zrm2 _ _ | exact zrm3 _ _ _ | exact zrm4 _ _ _ _ | omega) only [m108, ↓k_dp, ↓k_dn, k_dp, k_dn, k_dT, k_dF, k_ip, k_in, if_true, if_false, ne_eq, not_true_eq_false, not_false_eq_true, Int.reduceAdd, zup_a, zup_e, zup_j, z32_id, k_ic, k_is4, k_is5, k_il5, k_al1, k_gI, k_icge, k_al0, k_al2, k_il3, k_v5r, k_ifeq, k_il4, k_ishl, k_ior, k_inc5, k_goto, k_ri, zb0_some, zb1_some, e108_0, e108_1, e108_3, e108_4, e108_8, e108_9, e108_12, e108_15, e108_16, e108_17, e108_18, e108_19, e108_21, e108_24, e108_27, e108_29, e108_30, e108_32, e108_33, e108_34, e108_36, e108_39, e108_42, e108_44]
  exact a1
theorem leafR_K {kd nu sg w a b r : Int} (h : leafR kd nu sg w a b r) : leafK kd nu sg := by
  obtain ⟨h1, h2, h3, h4⟩ := h
  refine ⟨h1, fun p1 p2 => ?_, fun p => (h4 p).2.2⟩
  obtain ⟨a, b, c⟩ := h3 (by omega) p2
  exact ⟨b, c p1⟩
theorem leafR_V {S G : zM} {kd nu sg w a b r : Int} (h : leafR kd nu sg w a b r) (hh : Int) : leafV S G kd nu sg hh = if w ≤ 78 then leafV S G (w - 71) a 0 hh else leafV S G (w - 71) b r hh := by
  obtain ⟨h1, h2, h3, h4⟩ := h
  have e : w - 71 = kd := by omega
  rw [e]
  by_cases c : w ≤ 78
  · rw [if_pos c]
    unfold leafV
    by_cases c5 : 5 ≤ kd
    · have := (h3 c5 (by omega)).1
      subst this
      rw [if_neg (show ¬ kd = 8 by omega), if_neg (show ¬ kd = 9 by omega), if_neg (show ¬ kd = 8 by omega), if_neg (show ¬ kd = 9 by omega)]
      rcases (show kd = 5 ∨ kd = 6 ∨ kd = 7 by omega) with rfl | rfl | rfl <;> rfl
    · rcases (show kd = 3 ∨ kd = 4 by omega) with rfl | rfl <;> rfl
  · rw [if_neg c]
    obtain ⟨p1, p2, -⟩ := h4 (by omega)
    rw [p1, p2]
theorem holdV_succ {S G : zM} {R : Int → Int} {h : Int} {n : Nat} {k : Int} : holdV S G R h (n + 1) k = if R (128 + 4 * k) = 1 then !holdV S G R h n (R (128 + 4 * k + 1)) else if R (128 + 4 * k) = 2 then holdV S G R h n (R (128 + 4 * k + 1)) && holdV S G R h n (R (128 + 4 * k + 2)) else if R (128 + 4 * k) = 3 then holdV S G R h n (R (128 + 4 * k + 1)) || holdV S G R h n (R (128 + 4 * k + 2)) else if R (128 + 4 * k) ≤ 78 then leafV S G (R (128 + 4 * k) - 71) (R (128 + 4 * k + 1)) 0 h else leafV S G (R (128 + 4 * k) - 71) (R (128 + 4 * k + 2)) (R (128 + 4 * k + 3)) h := rfl
/-- the class: a piece of the steps leaves one set on the stack -/
theorem s_piece (d : Nat) (x0 x1 x2 : Int) (M : zM) (R : Int → Int) (g1 : 0 ≤ M 30 7) (g2 : M 30 7 ≤ 10) : ∀ (n : Nat) (f t k top : Int) (l5 l6 : zV) (N : zM), gR (M 47) (M 48) (M 49) R n f t k → t ≤ M 46 4 → 0 ≤ top → top ≤ f → (∀ x y, x ≠ 50 → N x y = M x y) → ∃ N' s l5' l6', zEv true (d + 4) 107 5 [(25, 46, x0), (28, 30, x1), (26, 37, x2), (0, top, 0), (0, f, 0), l5, l6] [] N = zEv true (d + 4) 107 5 [(25, 46, x0), (28, 30, x1), (26, 37, x2), (0, top + 1, 0), (0, t, 0), l5', l6'] [] N' ∧ N' 50 top = s ∧ (∀ j, j < top → N' 50 j = N 50 j) ∧ (∀ x y, x ≠ 50 → N' x y = M x y) ∧ setOf (M 30 7) s (fun h => holdV (zvS M 37) (zvG M 30) R h n k)
  | 0, f, t, k, top, l5, l6, N, hg, _, _, _, _ => by cases hg
  | n + 1, f, t, k, top, l5, l6, N, hg, ht, t0, t1, hN => by
    obtain ⟨⟨k0, k1⟩, ⟨f0, f1⟩, hg⟩ := hg
    have n464 : ∀ N' : zM, (∀ x y, x ≠ 50 → N' x y = M x y) → N' 46 4 = M 46 4 := fun N' h => h _ _ (by omega)
    rcases hg with ⟨p1, p2⟩ | ⟨p1, p2, p3, p4⟩ | ⟨m, p1, p2, p3, p4, p5⟩
    · have hk := leafR_K p2
      have eS : zvS N 37 = zvS M 37 := zvS_eq (fun x y h1 h2 => hN x y (by omega))
      have eG : zvG N 30 = zvG M 30 := zvG_eq (fun x y h1 h2 => hN x y (by omega))
      have e47 : N 47 = M 47 := by funext z; exact hN _ _ (by omega)
      have e48 : N 48 = M 48 := by funext z; exact hN _ _ (by omega)
      have e49 : N 49 = M 49 := by funext z; exact hN _ _ (by omega)
      have e307 : N 30 7 = M 30 7 := hN _ _ (by omega)
      obtain ⟨s, a1, a2⟩ := s_handsOfStep (d + 1) x0 x1 x2 f 0 N f0 (by omega) (by omega) (by omega) (by rw [e47, e48, e49]; exact hk)
      rw [eS, eG, e47, e48, e49, e307] at a2
      have h464 := n464 N hN
      have h47 : N 47 f = M 47 f := hN _ _ (by omega)
      obtain ⟨⟨q1, q2⟩, -, -⟩ := hk
      refine ⟨zup N 50 top s, s, l5, l6, ?_, zup_e (by omega), fun j hj => zup_j (by omega), fun x y h => by rw [zup_a h]; exact hN x y h, setOf_eq a2 (fun h _ _ => ?_)⟩
      · rw [e107_5, p1]
        simp (disch := first | assumption | exact zrm0 | exact zrm1 _ | exact zrm2 _ _ | exact zrm3 _ _ _ | exact zrm4 _ _ _ _ | omega) only [m107, ↓k_dp, ↓k_dn, k_dp, k_dn, k_dT, k_dF, k_ip, k_in, if_true, if_false, ne_eq, not_true_eq_false, not_false_eq_true, Int.reduceAdd, zup_a, zup_e, zup_j, z32_id, k_ic, k_is3, k_is4, k_il4, k_al0, k_gI, k_icge, k_gR, k_ild, k_ildS, k_ildW, k_ifeq, k_icne, k_il3, k_ri, k_inc3, k_isub, k_iand, k_is5, k_ior, k_is6, k_ifne, k_il6, k_goto, k_il5, k_ist, k_al1, k_v1r, k_ixor, k_al2, k_v4r, k_inc4, zb0_some, zb1_some, e107_0, e107_1, e107_2, e107_3, e107_7, e107_8, e107_11, e107_14, e107_15, e107_18, e107_20, e107_21, e107_24, e107_25, e107_28, e107_30, e107_31, e107_32, e107_35, e107_36, e107_37, e107_40, e107_41, e107_42, e107_45, e107_46, e107_49, e107_50, e107_51, e107_52, e107_55, e107_56, e107_57, e107_58, e107_59, e107_60, e107_62, e107_63, e107_66, e107_67, e107_68, e107_69, e107_72, e107_73, e107_74, e107_75, e107_76, e107_77, e107_79, e107_80, e107_83, e107_84, e107_85, e107_86, e107_87, e107_90, e107_92, e107_93, e107_96, e107_98, e107_101, e107_103, e107_104, e107_107, e107_108, e107_111, e107_113, e107_114, e107_115, e107_118, e107_119, e107_120, e107_123, e107_124, e107_125, e107_126, e107_129, e107_130, e107_131, e107_132, e107_133, e107_136, e107_137, e107_140, e107_141, e107_142, e107_143, e107_144, e107_145, e107_146, e107_147, e107_148, e107_151, e107_152, e107_154, e107_157, e107_158, e107_161, e107_162, e107_163, e107_164, e107_165, e107_167, e107_170, e107_171, e107_174, e107_177, e107_180, e107_181, e107_182, e107_185, e107_186, e107_189, e107_190, e107_191, e107_194, e107_195, h464, h47, a1]
      · rw [leafR_V p2 h]
        obtain ⟨-, w, -⟩ := p2
        rw [holdV_succ, if_neg (show ¬ R (128 + 4 * k) = 1 by omega), if_neg (show ¬ R (128 + 4 * k) = 2 by omega), if_neg (show ¬ R (128 + 4 * k) = 3 by omega)]
    · obtain ⟨N1, s1, u5, u6, a1, a2, a3, a4, a5⟩ := s_piece d x0 x1 x2 M R g1 g2 n f (t - 1) _ top l5 l6 N p4 (by omega) t0 t1 hN
      have h464 := n464 N1 a4
      have h47 : N1 47 (t - 1) = 2 := by rw [a4 _ _ (by omega)]; exact p2
      have e307 : N1 30 7 = M 30 7 := a4 _ _ (by omega)
      have et : t - 1 + 1 = t := by omega
      refine ⟨zup N1 50 top (zand (z32 (zshl 1 (M 30 7) - 1)) (zxor s1 (-1))), _, u5, u6, ?_, zup_e (by omega), fun j hj => by rw [zup_j (by omega)]; exact a3 j hj, fun x y h => by rw [zup_a h]; exact a4 x y h, setOf_eq (setOf_not g1 g2 a5) (fun h _ _ => ?_)⟩
      · rw [a1, e107_5]
        simp (disch := first | assumption | exact zrm0 | exact zrm1 _ | exact zrm2 _ _ | exact zrm3 _ _ _ | exact zrm4 _ _ _ _ | omega) only [m107, ↓k_dp, ↓k_dn, k_dp, k_dn, k_dT, k_dF, k_ip, k_in, if_true, if_false, ne_eq, not_true_eq_false, not_false_eq_true, Int.reduceAdd, zup_a, zup_e, zup_j, z32_id, k_ic, k_is3, k_is4, k_il4, k_al0, k_gI, k_icge, k_gR, k_ild, k_ildS, k_ildW, k_ifeq, k_icne, k_il3, k_ri, k_inc3, k_isub, k_iand, k_is5, k_ior, k_is6, k_ifne, k_il6, k_goto, k_il5, k_ist, k_al1, k_v1r, k_ixor, k_al2, k_v4r, k_inc4, zb0_some, zb1_some, e107_0, e107_1, e107_2, e107_3, e107_7, e107_8, e107_11, e107_14, e107_15, e107_18, e107_20, e107_21, e107_24, e107_25, e107_28, e107_30, e107_31, e107_32, e107_35, e107_36, e107_37, e107_40, e107_41, e107_42, e107_45, e107_46, e107_49, e107_50, e107_51, e107_52, e107_55, e107_56, e107_57, e107_58, e107_59, e107_60, e107_62, e107_63, e107_66, e107_67, e107_68, e107_69, e107_72, e107_73, e107_74, e107_75, e107_76, e107_77, e107_79, e107_80, e107_83, e107_84, e107_85, e107_86, e107_87, e107_90, e107_92, e107_93, e107_96, e107_98, e107_101, e107_103, e107_104, e107_107, e107_108, e107_111, e107_113, e107_114, e107_115, e107_118, e107_119, e107_120, e107_123, e107_124, e107_125, e107_126, e107_129, e107_130, e107_131, e107_132, e107_133, e107_136, e107_137, e107_140, e107_141, e107_142, e107_143, e107_144, e107_145, e107_146, e107_147, e107_148, e107_151, e107_152, e107_154, e107_157, e107_158, e107_161, e107_162, e107_163, e107_164, e107_165, e107_167, e107_170, e107_171, e107_174, e107_177, e107_180, e107_181, e107_182, e107_185, e107_186, e107_189, e107_190, e107_191, e107_194, e107_195, h464, h47, Int.add_sub_cancel, s_allHands, e307, a2, et]
      · show _ = holdV (zvS M 37) (zvG M 30) R h (n + 1) k
        rw [holdV_succ, if_pos p3]
    · obtain ⟨N1, s1, u5, u6, a1, a2, a3, a4, a5⟩ := s_piece d x0 x1 x2 M R g1 g2 n f m _ top l5 l6 N p4 (by omega) t0 t1 hN
      obtain ⟨N2, s2, w5, w6, b1, b2, b3, b4, b5⟩ := s_piece d x0 x1 x2 M R g1 g2 n m (t - 1) _ (top + 1) u5 u6 N1 p5 (by omega) (by omega) (by omega) a4
      have h464 := n464 N2 b4
      have e307 : N2 30 7 = M 30 7 := b4 _ _ (by omega)
      have et : t - 1 + 1 = t := by omega
      have hq1 : top + 1 + 1 + -1 = top + 1 := by omega
      have htop : N2 50 top = s1 := by rw [b3 _ (by omega)]; exact a2
      rcases p3 with ⟨p3, p6⟩ | ⟨p3, p6⟩
      · have h47 : N2 47 (t - 1) = 1 := by rw [b4 _ _ (by omega)]; exact p3
        refine ⟨zup N2 50 top (zand s2 s1), _, (0, zand s2 s1, 0), (0, zor s2 s1, 0), ?_, zup_e (by omega), fun j hj => by rw [zup_j (by omega), b3 j (by omega)]; exact a3 j hj, fun x y h => by rw [zup_a h]; exact b4 x y h, setOf_eq (setOf_and b5 a5) (fun h _ _ => ?_)⟩
        · rw [a1, b1, e107_5]
          simp (disch := first | assumption | exact zrm0 | exact zrm1 _ | exact zrm2 _ _ | exact zrm3 _ _ _ | exact zrm4 _ _ _ _ | omega) only [m107, ↓k_dp, ↓k_dn, k_dp, k_dn, k_dT, k_dF, k_ip, k_in, if_true, if_false, ne_eq, not_true_eq_false, not_false_eq_true, Int.reduceAdd, zup_a, zup_e, zup_j, z32_id, k_ic, k_is3, k_is4, k_il4, k_al0, k_gI, k_icge, k_gR, k_ild, k_ildS, k_ildW, k_ifeq, k_icne, k_il3, k_ri, k_inc3, k_isub, k_iand, k_is5, k_ior, k_is6, k_ifne, k_il6, k_goto, k_il5, k_ist, k_al1, k_v1r, k_ixor, k_al2, k_v4r, k_inc4, zb0_some, zb1_some, e107_0, e107_1, e107_2, e107_3, e107_7, e107_8, e107_11, e107_14, e107_15, e107_18, e107_20, e107_21, e107_24, e107_25, e107_28, e107_30, e107_31, e107_32, e107_35, e107_36, e107_37, e107_40, e107_41, e107_42, e107_45, e107_46, e107_49, e107_50, e107_51, e107_52, e107_55, e107_56, e107_57, e107_58, e107_59, e107_60, e107_62, e107_63, e107_66, e107_67, e107_68, e107_69, e107_72, e107_73, e107_74, e107_75, e107_76, e107_77, e107_79, e107_80, e107_83, e107_84, e107_85, e107_86, e107_87, e107_90, e107_92, e107_93, e107_96, e107_98, e107_101, e107_103, e107_104, e107_107, e107_108, e107_111, e107_113, e107_114, e107_115, e107_118, e107_119, e107_120, e107_123, e107_124, e107_125, e107_126, e107_129, e107_130, e107_131, e107_132, e107_133, e107_136, e107_137, e107_140, e107_141, e107_142, e107_143, e107_144, e107_145, e107_146, e107_147, e107_148, e107_151, e107_152, e107_154, e107_157, e107_158, e107_161, e107_162, e107_163, e107_164, e107_165, e107_167, e107_170, e107_171, e107_174, e107_177, e107_180, e107_181, e107_182, e107_185, e107_186, e107_189, e107_190, e107_191, e107_194, e107_195, h464, h47, hq1, Int.add_sub_cancel, htop, b2, et]
        · show _ = holdV (zvS M 37) (zvG M 30) R h (n + 1) k
          rw [holdV_succ, if_neg (by omega), if_pos p6]
          exact Bool.and_comm _ _
      · have h47 : N2 47 (t - 1) = 0 := by rw [b4 _ _ (by omega)]; exact p3
        refine ⟨zup N2 50 top (zor s2 s1), _, (0, zand s2 s1, 0), (0, zor s2 s1, 0), ?_, zup_e (by omega), fun j hj => by rw [zup_j (by omega), b3 j (by omega)]; exact a3 j hj, fun x y h => by rw [zup_a h]; exact b4 x y h, setOf_eq (setOf_or b5 a5) (fun h _ _ => ?_)⟩
        · rw [a1, b1, e107_5]
          simp (disch := first | assumption | exact zrm0 | exact zrm1 _ | exact zrm2 _ _ | exact zrm3 _ _ _ | exact zrm4 _ _ _ _ | omega) only [m107, ↓k_dp, ↓k_dn, k_dp, k_dn, k_dT, k_dF, k_ip, k_in, if_true, if_false, ne_eq, not_true_eq_false, not_false_eq_true, Int.reduceAdd, zup_a, zup_e, zup_j, z32_id, k_ic, k_is3, k_is4, k_il4, k_al0, k_gI, k_icge, k_gR, k_ild, k_ildS, k_ildW, k_ifeq, k_icne, k_il3, k_ri, k_inc3, k_isub, k_iand, k_is5, k_ior, k_is6, k_ifne, k_il6, k_goto, k_il5, k_ist, k_al1, k_v1r, k_ixor, k_al2, k_v4r, k_inc4, zb0_some, zb1_some, e107_0, e107_1, e107_2, e107_3, e107_7, e107_8, e107_11, e107_14, e107_15, e107_18, e107_20, e107_21, e107_24, e107_25, e107_28, e107_30, e107_31, e107_32, e107_35, e107_36, e107_37, e107_40, e107_41, e107_42, e107_45, e107_46, e107_49, e107_50, e107_51, e107_52, e107_55, e107_56, e107_57, e107_58, e107_59, e107_60, e107_62, e107_63, e107_66, e107_67, e107_68, e107_69, e107_72, e107_73, e107_74, e107_75, e107_76, e107_77, e107_79, e107_80, e107_83, e107_84, e107_85, e107_86, e107_87, e107_90, e107_92, e107_93, e107_96, e107_98, e107_101, e107_103, e107_104, e107_107, e107_108, e107_111, e107_113, e107_114, e107_115, e107_118, e107_119, e107_120, e107_123, e107_124, e107_125, e107_126, e107_129, e107_130, e107_131, e107_132, e107_133, e107_136, e107_137, e107_140, e107_141, e107_142, e107_143, e107_144, e107_145, e107_146, e107_147, e107_148, e107_151, e107_152, e107_154, e107_157, e107_158, e107_161, e107_162, e107_163, e107_164, e107_165, e107_167, e107_170, e107_171, e107_174, e107_177, e107_180, e107_181, e107_182, e107_185, e107_186, e107_189, e107_190, e107_191, e107_194, e107_195, h464, h47, hq1, Int.add_sub_cancel, htop, b2, et]
        · show _ = holdV (zvS M 37) (zvG M 30) R h (n + 1) k
          rw [holdV_succ, if_neg (by omega), if_neg (by omega), if_pos p6]
          exact Bool.or_comm _ _
theorem s_handsOfWhich (d : Nat) (x0 x1 x2 : Int) (M : zM) (R : Int → Int) (g1 : 0 ≤ M 30 7) (g2 : M 30 7 ≤ 10) (n : Nat) (k : Int) (hg : gR (M 47) (M 48) (M 49) R n 0 (M 46 4) k) : ∃ N s, zEm true (d + 5) 107 [(25, 46, x0), (28, 30, x1), (26, 37, x2)] M = some ((0, s, 0), N) ∧ (∀ x y, x ≠ 50 → N x y = M x y) ∧ setOf (M 30 7) s (fun h => holdV (zvS M 37) (zvG M 30) R h n k) := by
  obtain ⟨N, s, u5, u6, a1, a2, a3, a4, a5⟩ := s_piece d x0 x1 x2 M R g1 g2 n 0 (M 46 4) k 0 (3, 0, 0) (3, 0, 0) M hg (Int.le_refl _) (Int.le_refl _) (Int.le_refl _) (fun _ _ _ => rfl)
  have h464 : N 46 4 = M 46 4 := a4 _ _ (by omega)
  refine ⟨N, s, ?_, a4, a5⟩
  simp (disch := first | assumption | exact zrm0 | exact zrm1 _ | exact zrm2 _ _ | exact zrm3 _ _ _ | exact zrm4 _ _ _ _ | omega) only [m107, ↓k_dp, ↓k_dn, k_dp, k_dn, k_dT, k_dF, k_ip, k_in, if_true, if_false, ne_eq, not_true_eq_false, not_false_eq_true, Int.reduceAdd, zup_a, zup_e, zup_j, z32_id, k_ic, k_is3, k_is4, k_il4, k_al0, k_gI, k_icge, k_gR, k_ild, k_ildS, k_ildW, k_ifeq, k_icne, k_il3, k_ri, k_inc3, k_isub, k_iand, k_is5, k_ior, k_is6, k_ifne, k_il6, k_goto, k_il5, k_ist, k_al1, k_v1r, k_ixor, k_al2, k_v4r, k_inc4, zb0_some, zb1_some, e107_0, e107_1, e107_2, e107_3, e107_7, e107_8, e107_11, e107_14, e107_15, e107_18, e107_20, e107_21, e107_24, e107_25, e107_28, e107_30, e107_31, e107_32, e107_35, e107_36, e107_37, e107_40, e107_41, e107_42, e107_45, e107_46, e107_49, e107_50, e107_51, e107_52, e107_55, e107_56, e107_57, e107_58, e107_59, e107_60, e107_62, e107_63, e107_66, e107_67, e107_68, e107_69, e107_72, e107_73, e107_74, e107_75, e107_76, e107_77, e107_79, e107_80, e107_83, e107_84, e107_85, e107_86, e107_87, e107_90, e107_92, e107_93, e107_96, e107_98, e107_101, e107_103, e107_104, e107_107, e107_108, e107_111, e107_113, e107_114, e107_115, e107_118, e107_119, e107_120, e107_123, e107_124, e107_125, e107_126, e107_129, e107_130, e107_131, e107_132, e107_133, e107_136, e107_137, e107_140, e107_141, e107_142, e107_143, e107_144, e107_145, e107_146, e107_147, e107_148, e107_151, e107_152, e107_154, e107_157, e107_158, e107_161, e107_162, e107_163, e107_164, e107_165, e107_167, e107_170, e107_171, e107_174, e107_177, e107_180, e107_181, e107_182, e107_185, e107_186, e107_189, e107_190, e107_191, e107_194, e107_195]
  rw [a1, e107_5]
  simp (disch := first | assumption | exact zrm0 | exact zrm1 _ | exact zrm2 _ _ | exact zrm3 _ _ _ | exact zrm4 _ _ _ _ | omega) only [m107, ↓k_dp, ↓k_dn, k_dp, k_dn, k_dT, k_dF, k_ip, k_in, if_true, if_false, ne_eq, not_true_eq_false, not_false_eq_true, Int.reduceAdd, zup_a, zup_e, zup_j, z32_id, k_ic, k_is3, k_is4, k_il4, k_al0, k_gI, k_icge, k_gR, k_ild, k_ildS, k_ildW, k_ifeq, k_icne, k_il3, k_ri, k_inc3, k_isub, k_iand, k_is5, k_ior, k_is6, k_ifne, k_il6, k_goto, k_il5, k_ist, k_al1, k_v1r, k_ixor, k_al2, k_v4r, k_inc4, zb0_some, zb1_some, e107_0, e107_1, e107_2, e107_3, e107_7, e107_8, e107_11, e107_14, e107_15, e107_18, e107_20, e107_21, e107_24, e107_25, e107_28, e107_30, e107_31, e107_32, e107_35, e107_36, e107_37, e107_40, e107_41, e107_42, e107_45, e107_46, e107_49, e107_50, e107_51, e107_52, e107_55, e107_56, e107_57, e107_58, e107_59, e107_60, e107_62, e107_63, e107_66, e107_67, e107_68, e107_69, e107_72, e107_73, e107_74, e107_75, e107_76, e107_77, e107_79, e107_80, e107_83, e107_84, e107_85, e107_86, e107_87, e107_90, e107_92, e107_93, e107_96, e107_98, e107_101, e107_103, e107_104, e107_107, e107_108, e107_111, e107_113, e107_114, e107_115, e107_118, e107_119, e107_120, e107_123, e107_124, e107_125, e107_126, e107_129, e107_130, e107_131, e107_132, e107_133, e107_136, e107_137, e107_140, e107_141, e107_142, e107_143, e107_144, e107_145, e107_146, e107_147, e107_148, e107_151, e107_152, e107_154, e107_157, e107_158, e107_161, e107_162, e107_163, e107_164, e107_165, e107_167, e107_170, e107_171, e107_174, e107_177, e107_180, e107_181, e107_182, e107_185, e107_186, e107_189, e107_190, e107_191, e107_194, e107_195, h464, Int.zero_add, a2]
