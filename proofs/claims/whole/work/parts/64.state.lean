/-! what a state answers, what acts do to it -/
theorem m114 (ph : Bool) (d : Nat) (a x0 p0 y0 : Int) (M : zM) : zEm ph (d + 1) 114 [(26, a, x0), (0, p0, y0)] M = zEv ph d 114 0 [(26, a, x0), (0, p0, y0)] [] M := rfl
theorem e114_0 (ph : Bool) (d : Nat) (L st : List zV) (M : zM) : zEv ph d 114 0 L st M = zcont ph d 114 (zstep ph (zEm ph d) 4 1 0 [0] L st M) := zEv_step rfl
theorem e114_1 (ph : Bool) (d : Nat) (L st : List zV) (M : zM) : zEv ph d 114 1 L st M = zcont ph d 114 (zstep ph (zEm ph d) 60 4 0 [26, 8] L st M) := zEv_step rfl
theorem e114_4 (ph : Bool) (d : Nat) (L st : List zV) (M : zM) : zEv ph d 114 4 L st M = zcont ph d 114 (zstep ph (zEm ph d) 2 5 0 [1] L st M) := zEv_step rfl
theorem e114_5 (ph : Bool) (d : Nat) (L st : List zV) (M : zM) : zEv ph d 114 5 L st M = zcont ph d 114 (zstep ph (zEm ph d) 20 6 0 [] L st M) := zEv_step rfl
theorem e114_6 (ph : Bool) (d : Nat) (L st : List zV) (M : zM) : zEv ph d 114 6 L st M = zcont ph d 114 (zstep ph (zEm ph d) 0 7 0 [1] L st M) := zEv_step rfl
theorem e114_7 (ph : Bool) (d : Nat) (L st : List zV) (M : zM) : zEv ph d 114 7 L st M = zcont ph d 114 (zstep ph (zEm ph d) 16 8 0 [] L st M) := zEv_step rfl
theorem e114_8 (ph : Bool) (d : Nat) (L st : List zV) (M : zM) : zEv ph d 114 8 L st M = zcont ph d 114 (zstep ph (zEm ph d) 40 11 15 [] L st M) := zEv_step rfl
theorem e114_11 (ph : Bool) (d : Nat) (L st : List zV) (M : zM) : zEv ph d 114 11 L st M = zcont ph d 114 (zstep ph (zEm ph d) 0 12 0 [1] L st M) := zEv_step rfl
theorem e114_12 (ph : Bool) (d : Nat) (L st : List zV) (M : zM) : zEv ph d 114 12 L st M = zcont ph d 114 (zstep ph (zEm ph d) 52 15 16 [] L st M) := zEv_step rfl
theorem e114_15 (ph : Bool) (d : Nat) (L st : List zV) (M : zM) : zEv ph d 114 15 L st M = zcont ph d 114 (zstep ph (zEm ph d) 0 16 0 [0] L st M) := zEv_step rfl
theorem e114_16 (ph : Bool) (d : Nat) (L st : List zV) (M : zM) : zEv ph d 114 16 L st M = zcont ph d 114 (zstep ph (zEm ph d) 80 17 0 [0, 1] L st M) := zEv_step rfl
theorem m156 (ph : Bool) (d : Nat) (a x0 p0 y0 : Int) (M : zM) : zEm ph (d + 1) 156 [(28, a, x0), (0, p0, y0)] M = zEv ph d 156 0 [(28, a, x0), (0, p0, y0)] [] M := rfl
theorem e156_0 (ph : Bool) (d : Nat) (L st : List zV) (M : zM) : zEv ph d 156 0 L st M = zcont ph d 156 (zstep ph (zEm ph d) 4 1 0 [0] L st M) := zEv_step rfl
theorem e156_1 (ph : Bool) (d : Nat) (L st : List zV) (M : zM) : zEv ph d 156 1 L st M = zcont ph d 156 (zstep ph (zEm ph d) 60 4 0 [28, 9] L st M) := zEv_step rfl
theorem e156_4 (ph : Bool) (d : Nat) (L st : List zV) (M : zM) : zEv ph d 156 4 L st M = zcont ph d 156 (zstep ph (zEm ph d) 2 5 0 [1] L st M) := zEv_step rfl
theorem e156_5 (ph : Bool) (d : Nat) (L st : List zV) (M : zM) : zEv ph d 156 5 L st M = zcont ph d 156 (zstep ph (zEm ph d) 20 6 0 [] L st M) := zEv_step rfl
theorem e156_6 (ph : Bool) (d : Nat) (L st : List zV) (M : zM) : zEv ph d 156 6 L st M = zcont ph d 156 (zstep ph (zEm ph d) 0 7 0 [1] L st M) := zEv_step rfl
theorem e156_7 (ph : Bool) (d : Nat) (L st : List zV) (M : zM) : zEv ph d 156 7 L st M = zcont ph d 156 (zstep ph (zEm ph d) 16 8 0 [] L st M) := zEv_step rfl
theorem e156_8 (ph : Bool) (d : Nat) (L st : List zV) (M : zM) : zEv ph d 156 8 L st M = zcont ph d 156 (zstep ph (zEm ph d) 40 11 15 [] L st M) := zEv_step rfl
theorem e156_11 (ph : Bool) (d : Nat) (L st : List zV) (M : zM) : zEv ph d 156 11 L st M = zcont ph d 156 (zstep ph (zEm ph d) 0 12 0 [1] L st M) := zEv_step rfl
theorem e156_12 (ph : Bool) (d : Nat) (L st : List zV) (M : zM) : zEv ph d 156 12 L st M = zcont ph d 156 (zstep ph (zEm ph d) 52 15 16 [] L st M) := zEv_step rfl
theorem e156_15 (ph : Bool) (d : Nat) (L st : List zV) (M : zM) : zEv ph d 156 15 L st M = zcont ph d 156 (zstep ph (zEm ph d) 0 16 0 [0] L st M) := zEv_step rfl
theorem e156_16 (ph : Bool) (d : Nat) (L st : List zV) (M : zM) : zEv ph d 156 16 L st M = zcont ph d 156 (zstep ph (zEm ph d) 80 17 0 [0, 1] L st M) := zEv_step rfl
theorem m118 (ph : Bool) (d : Nat) (a x0 p0 y0 p1 y1 p2 y2 p3 y3 : Int) (M : zM) : zEm ph (d + 1) 118 [(26, a, x0), (28, p0, y0), (0, p1, y1), (0, p2, y2), (0, p3, y3)] M = zEv ph d 118 0 [(26, a, x0), (28, p0, y0), (0, p1, y1), (0, p2, y2), (0, p3, y3), (3, 0, 0)] [] M := rfl
theorem e118_0 (ph : Bool) (d : Nat) (L st : List zV) (M : zM) : zEv ph d 118 0 L st M = zcont ph d 118 (zstep ph (zEm ph d) 4 1 0 [0] L st M) := zEv_step rfl
theorem e118_1 (ph : Bool) (d : Nat) (L st : List zV) (M : zM) : zEv ph d 118 1 L st M = zcont ph d 118 (zstep ph (zEm ph d) 2 2 0 [2] L st M) := zEv_step rfl
theorem e118_2 (ph : Bool) (d : Nat) (L st : List zV) (M : zM) : zEv ph d 118 2 L st M = zcont ph d 118 (zstep ph (zEm ph d) 70 5 114 [2, 1, 26] L st M) := zEv_step rfl
theorem e118_5 (ph : Bool) (d : Nat) (L st : List zV) (M : zM) : zEv ph d 118 5 L st M = zcont ph d 118 (zstep ph (zEm ph d) 40 8 10 [] L st M) := zEv_step rfl
theorem e118_8 (ph : Bool) (d : Nat) (L st : List zV) (M : zM) : zEv ph d 118 8 L st M = zcont ph d 118 (zstep ph (zEm ph d) 0 9 0 [0] L st M) := zEv_step rfl
theorem e118_9 (ph : Bool) (d : Nat) (L st : List zV) (M : zM) : zEv ph d 118 9 L st M = zcont ph d 118 (zstep ph (zEm ph d) 80 10 0 [] L st M) := zEv_step rfl
theorem e118_10 (ph : Bool) (d : Nat) (L st : List zV) (M : zM) : zEv ph d 118 10 L st M = zcont ph d 118 (zstep ph (zEm ph d) 4 11 0 [0] L st M) := zEv_step rfl
theorem e118_11 (ph : Bool) (d : Nat) (L st : List zV) (M : zM) : zEv ph d 118 11 L st M = zcont ph d 118 (zstep ph (zEm ph d) 62 14 0 [26, 0, 1, 10, 10] L st M) := zEv_step rfl
theorem e118_14 (ph : Bool) (d : Nat) (L st : List zV) (M : zM) : zEv ph d 118 14 L st M = zcont ph d 118 (zstep ph (zEm ph d) 2 15 0 [2] L st M) := zEv_step rfl
theorem e118_15 (ph : Bool) (d : Nat) (L st : List zV) (M : zM) : zEv ph d 118 15 L st M = zcont ph d 118 (zstep ph (zEm ph d) 85 16 0 [] L st M) := zEv_step rfl
theorem e118_16 (ph : Bool) (d : Nat) (L st : List zV) (M : zM) : zEv ph d 118 16 L st M = zcont ph d 118 (zstep ph (zEm ph d) 2 18 0 [4] L st M) := zEv_step rfl
theorem e118_18 (ph : Bool) (d : Nat) (L st : List zV) (M : zM) : zEv ph d 118 18 L st M = zcont ph d 118 (zstep ph (zEm ph d) 10 19 0 [] L st M) := zEv_step rfl
theorem e118_19 (ph : Bool) (d : Nat) (L st : List zV) (M : zM) : zEv ph d 118 19 L st M = zcont ph d 118 (zstep ph (zEm ph d) 5 21 0 [5] L st M) := zEv_step rfl
theorem e118_21 (ph : Bool) (d : Nat) (L st : List zV) (M : zM) : zEv ph d 118 21 L st M = zcont ph d 118 (zstep ph (zEm ph d) 4 22 0 [1] L st M) := zEv_step rfl
theorem e118_22 (ph : Bool) (d : Nat) (L st : List zV) (M : zM) : zEv ph d 118 22 L st M = zcont ph d 118 (zstep ph (zEm ph d) 2 23 0 [2] L st M) := zEv_step rfl
theorem e118_23 (ph : Bool) (d : Nat) (L st : List zV) (M : zM) : zEv ph d 118 23 L st M = zcont ph d 118 (zstep ph (zEm ph d) 70 26 156 [2, 1, 28] L st M) := zEv_step rfl
theorem e118_26 (ph : Bool) (d : Nat) (L st : List zV) (M : zM) : zEv ph d 118 26 L st M = zcont ph d 118 (zstep ph (zEm ph d) 40 29 35 [] L st M) := zEv_step rfl
theorem e118_29 (ph : Bool) (d : Nat) (L st : List zV) (M : zM) : zEv ph d 118 29 L st M = zcont ph d 118 (zstep ph (zEm ph d) 2 31 0 [5] L st M) := zEv_step rfl
theorem e118_31 (ph : Bool) (d : Nat) (L st : List zV) (M : zM) : zEv ph d 118 31 L st M = zcont ph d 118 (zstep ph (zEm ph d) 0 32 0 [2] L st M) := zEv_step rfl
theorem e118_32 (ph : Bool) (d : Nat) (L st : List zV) (M : zM) : zEv ph d 118 32 L st M = zcont ph d 118 (zstep ph (zEm ph d) 12 33 0 [] L st M) := zEv_step rfl
theorem e118_33 (ph : Bool) (d : Nat) (L st : List zV) (M : zM) : zEv ph d 118 33 L st M = zcont ph d 118 (zstep ph (zEm ph d) 5 35 0 [5] L st M) := zEv_step rfl
theorem e118_35 (ph : Bool) (d : Nat) (L st : List zV) (M : zM) : zEv ph d 118 35 L st M = zcont ph d 118 (zstep ph (zEm ph d) 4 36 0 [0] L st M) := zEv_step rfl
theorem e118_36 (ph : Bool) (d : Nat) (L st : List zV) (M : zM) : zEv ph d 118 36 L st M = zcont ph d 118 (zstep ph (zEm ph d) 60 39 0 [26, 9] L st M) := zEv_step rfl
theorem e118_39 (ph : Bool) (d : Nat) (L st : List zV) (M : zM) : zEv ph d 118 39 L st M = zcont ph d 118 (zstep ph (zEm ph d) 0 40 0 [1] L st M) := zEv_step rfl
theorem e118_40 (ph : Bool) (d : Nat) (L st : List zV) (M : zM) : zEv ph d 118 40 L st M = zcont ph d 118 (zstep ph (zEm ph d) 47 43 49 [] L st M) := zEv_step rfl
theorem e118_43 (ph : Bool) (d : Nat) (L st : List zV) (M : zM) : zEv ph d 118 43 L st M = zcont ph d 118 (zstep ph (zEm ph d) 2 45 0 [5] L st M) := zEv_step rfl
theorem e118_45 (ph : Bool) (d : Nat) (L st : List zV) (M : zM) : zEv ph d 118 45 L st M = zcont ph d 118 (zstep ph (zEm ph d) 0 46 0 [2] L st M) := zEv_step rfl
theorem e118_46 (ph : Bool) (d : Nat) (L st : List zV) (M : zM) : zEv ph d 118 46 L st M = zcont ph d 118 (zstep ph (zEm ph d) 13 47 0 [] L st M) := zEv_step rfl
theorem e118_47 (ph : Bool) (d : Nat) (L st : List zV) (M : zM) : zEv ph d 118 47 L st M = zcont ph d 118 (zstep ph (zEm ph d) 5 49 0 [5] L st M) := zEv_step rfl
theorem e118_49 (ph : Bool) (d : Nat) (L st : List zV) (M : zM) : zEv ph d 118 49 L st M = zcont ph d 118 (zstep ph (zEm ph d) 0 50 0 [0] L st M) := zEv_step rfl
theorem e118_50 (ph : Bool) (d : Nat) (L st : List zV) (M : zM) : zEv ph d 118 50 L st M = zcont ph d 118 (zstep ph (zEm ph d) 2 52 0 [5] L st M) := zEv_step rfl
theorem e118_52 (ph : Bool) (d : Nat) (L st : List zV) (M : zM) : zEv ph d 118 52 L st M = zcont ph d 118 (zstep ph (zEm ph d) 4 53 0 [0] L st M) := zEv_step rfl
theorem e118_53 (ph : Bool) (d : Nat) (L st : List zV) (M : zM) : zEv ph d 118 53 L st M = zcont ph d 118 (zstep ph (zEm ph d) 62 56 0 [26, 7, 8, 10, 2] L st M) := zEv_step rfl
theorem e118_56 (ph : Bool) (d : Nat) (L st : List zV) (M : zM) : zEv ph d 118 56 L st M = zcont ph d 118 (zstep ph (zEm ph d) 2 57 0 [3] L st M) := zEv_step rfl
theorem e118_57 (ph : Bool) (d : Nat) (L st : List zV) (M : zM) : zEv ph d 118 57 L st M = zcont ph d 118 (zstep ph (zEm ph d) 85 58 0 [] L st M) := zEv_step rfl
theorem e118_58 (ph : Bool) (d : Nat) (L st : List zV) (M : zM) : zEv ph d 118 58 L st M = zcont ph d 118 (zstep ph (zEm ph d) 11 59 0 [] L st M) := zEv_step rfl
theorem e118_59 (ph : Bool) (d : Nat) (L st : List zV) (M : zM) : zEv ph d 118 59 L st M = zcont ph d 118 (zstep ph (zEm ph d) 71 62 0 [] L st M) := zEv_step rfl
theorem e118_62 (ph : Bool) (d : Nat) (L st : List zV) (M : zM) : zEv ph d 118 62 L st M = zcont ph d 118 (zstep ph (zEm ph d) 80 63 0 [] L st M) := zEv_step rfl
theorem m119 (ph : Bool) (d : Nat) (a x0 p0 y0 p1 y1 p2 y2 : Int) (M : zM) : zEm ph (d + 1) 119 [(26, a, x0), (28, p0, y0), (0, p1, y1), (0, p2, y2)] M = zEv ph d 119 0 [(26, a, x0), (28, p0, y0), (0, p1, y1), (0, p2, y2), (3, 0, 0), (3, 0, 0)] [] M := rfl
theorem e119_0 (ph : Bool) (d : Nat) (L st : List zV) (M : zM) : zEv ph d 119 0 L st M = zcont ph d 119 (zstep ph (zEm ph d) 0 1 0 [0] L st M) := zEv_step rfl
theorem e119_1 (ph : Bool) (d : Nat) (L st : List zV) (M : zM) : zEv ph d 119 1 L st M = zcont ph d 119 (zstep ph (zEm ph d) 5 3 0 [4] L st M) := zEv_step rfl
theorem e119_3 (ph : Bool) (d : Nat) (L st : List zV) (M : zM) : zEv ph d 119 3 L st M = zcont ph d 119 (zstep ph (zEm ph d) 0 4 0 [0] L st M) := zEv_step rfl
theorem e119_4 (ph : Bool) (d : Nat) (L st : List zV) (M : zM) : zEv ph d 119 4 L st M = zcont ph d 119 (zstep ph (zEm ph d) 5 6 0 [5] L st M) := zEv_step rfl
theorem e119_6 (ph : Bool) (d : Nat) (L st : List zV) (M : zM) : zEv ph d 119 6 L st M = zcont ph d 119 (zstep ph (zEm ph d) 2 8 0 [5] L st M) := zEv_step rfl
theorem e119_8 (ph : Bool) (d : Nat) (L st : List zV) (M : zM) : zEv ph d 119 8 L st M = zcont ph d 119 (zstep ph (zEm ph d) 4 9 0 [1] L st M) := zEv_step rfl
theorem e119_9 (ph : Bool) (d : Nat) (L st : List zV) (M : zM) : zEv ph d 119 9 L st M = zcont ph d 119 (zstep ph (zEm ph d) 60 12 0 [28, 7] L st M) := zEv_step rfl
theorem e119_12 (ph : Bool) (d : Nat) (L st : List zV) (M : zM) : zEv ph d 119 12 L st M = zcont ph d 119 (zstep ph (zEm ph d) 49 15 44 [] L st M) := zEv_step rfl
theorem e119_15 (ph : Bool) (d : Nat) (L st : List zV) (M : zM) : zEv ph d 119 15 L st M = zcont ph d 119 (zstep ph (zEm ph d) 2 16 0 [2] L st M) := zEv_step rfl
theorem e119_16 (ph : Bool) (d : Nat) (L st : List zV) (M : zM) : zEv ph d 119 16 L st M = zcont ph d 119 (zstep ph (zEm ph d) 2 18 0 [5] L st M) := zEv_step rfl
theorem e119_18 (ph : Bool) (d : Nat) (L st : List zV) (M : zM) : zEv ph d 119 18 L st M = zcont ph d 119 (zstep ph (zEm ph d) 20 19 0 [] L st M) := zEv_step rfl
theorem e119_19 (ph : Bool) (d : Nat) (L st : List zV) (M : zM) : zEv ph d 119 19 L st M = zcont ph d 119 (zstep ph (zEm ph d) 0 20 0 [1] L st M) := zEv_step rfl
theorem e119_20 (ph : Bool) (d : Nat) (L st : List zV) (M : zM) : zEv ph d 119 20 L st M = zcont ph d 119 (zstep ph (zEm ph d) 16 21 0 [] L st M) := zEv_step rfl
theorem e119_21 (ph : Bool) (d : Nat) (L st : List zV) (M : zM) : zEv ph d 119 21 L st M = zcont ph d 119 (zstep ph (zEm ph d) 40 24 38 [] L st M) := zEv_step rfl
theorem e119_24 (ph : Bool) (d : Nat) (L st : List zV) (M : zM) : zEv ph d 119 24 L st M = zcont ph d 119 (zstep ph (zEm ph d) 2 26 0 [4] L st M) := zEv_step rfl
theorem e119_26 (ph : Bool) (d : Nat) (L st : List zV) (M : zM) : zEv ph d 119 26 L st M = zcont ph d 119 (zstep ph (zEm ph d) 4 27 0 [0] L st M) := zEv_step rfl
theorem e119_27 (ph : Bool) (d : Nat) (L st : List zV) (M : zM) : zEv ph d 119 27 L st M = zcont ph d 119 (zstep ph (zEm ph d) 4 28 0 [1] L st M) := zEv_step rfl
theorem e119_28 (ph : Bool) (d : Nat) (L st : List zV) (M : zM) : zEv ph d 119 28 L st M = zcont ph d 119 (zstep ph (zEm ph d) 2 30 0 [5] L st M) := zEv_step rfl
theorem e119_30 (ph : Bool) (d : Nat) (L st : List zV) (M : zM) : zEv ph d 119 30 L st M = zcont ph d 119 (zstep ph (zEm ph d) 2 31 0 [3] L st M) := zEv_step rfl
theorem e119_31 (ph : Bool) (d : Nat) (L st : List zV) (M : zM) : zEv ph d 119 31 L st M = zcont ph d 119 (zstep ph (zEm ph d) 0 32 0 [0] L st M) := zEv_step rfl
theorem e119_32 (ph : Bool) (d : Nat) (L st : List zV) (M : zM) : zEv ph d 119 32 L st M = zcont ph d 119 (zstep ph (zEm ph d) 70 35 118 [5, 1, 26] L st M) := zEv_step rfl
theorem e119_35 (ph : Bool) (d : Nat) (L st : List zV) (M : zM) : zEv ph d 119 35 L st M = zcont ph d 119 (zstep ph (zEm ph d) 10 36 0 [] L st M) := zEv_step rfl
theorem e119_36 (ph : Bool) (d : Nat) (L st : List zV) (M : zM) : zEv ph d 119 36 L st M = zcont ph d 119 (zstep ph (zEm ph d) 5 38 0 [4] L st M) := zEv_step rfl
theorem e119_38 (ph : Bool) (d : Nat) (L st : List zV) (M : zM) : zEv ph d 119 38 L st M = zcont ph d 119 (zstep ph (zEm ph d) 8 41 0 [5, 1] L st M) := zEv_step rfl
theorem e119_41 (ph : Bool) (d : Nat) (L st : List zV) (M : zM) : zEv ph d 119 41 L st M = zcont ph d 119 (zstep ph (zEm ph d) 52 44 6 [] L st M) := zEv_step rfl
theorem e119_44 (ph : Bool) (d : Nat) (L st : List zV) (M : zM) : zEv ph d 119 44 L st M = zcont ph d 119 (zstep ph (zEm ph d) 2 46 0 [4] L st M) := zEv_step rfl
theorem e119_46 (ph : Bool) (d : Nat) (L st : List zV) (M : zM) : zEv ph d 119 46 L st M = zcont ph d 119 (zstep ph (zEm ph d) 45 49 61 [] L st M) := zEv_step rfl
theorem e119_49 (ph : Bool) (d : Nat) (L st : List zV) (M : zM) : zEv ph d 119 49 L st M = zcont ph d 119 (zstep ph (zEm ph d) 2 51 0 [4] L st M) := zEv_step rfl
theorem e119_51 (ph : Bool) (d : Nat) (L st : List zV) (M : zM) : zEv ph d 119 51 L st M = zcont ph d 119 (zstep ph (zEm ph d) 4 52 0 [1] L st M) := zEv_step rfl
theorem e119_52 (ph : Bool) (d : Nat) (L st : List zV) (M : zM) : zEv ph d 119 52 L st M = zcont ph d 119 (zstep ph (zEm ph d) 62 55 0 [28, 5, 6, 10, 2] L st M) := zEv_step rfl
theorem e119_55 (ph : Bool) (d : Nat) (L st : List zV) (M : zM) : zEv ph d 119 55 L st M = zcont ph d 119 (zstep ph (zEm ph d) 2 56 0 [3] L st M) := zEv_step rfl
theorem e119_56 (ph : Bool) (d : Nat) (L st : List zV) (M : zM) : zEv ph d 119 56 L st M = zcont ph d 119 (zstep ph (zEm ph d) 85 57 0 [] L st M) := zEv_step rfl
theorem e119_57 (ph : Bool) (d : Nat) (L st : List zV) (M : zM) : zEv ph d 119 57 L st M = zcont ph d 119 (zstep ph (zEm ph d) 10 58 0 [] L st M) := zEv_step rfl
theorem e119_58 (ph : Bool) (d : Nat) (L st : List zV) (M : zM) : zEv ph d 119 58 L st M = zcont ph d 119 (zstep ph (zEm ph d) 52 61 62 [] L st M) := zEv_step rfl
theorem e119_61 (ph : Bool) (d : Nat) (L st : List zV) (M : zM) : zEv ph d 119 61 L st M = zcont ph d 119 (zstep ph (zEm ph d) 0 62 0 [0] L st M) := zEv_step rfl
theorem e119_62 (ph : Bool) (d : Nat) (L st : List zV) (M : zM) : zEv ph d 119 62 L st M = zcont ph d 119 (zstep ph (zEm ph d) 80 63 0 [] L st M) := zEv_step rfl
theorem s_isSilent (ph : Bool) (d : Nat) (a x0 h y : Int) (M : zM) : zEm ph (d + 1) 114 [(26, a, x0), (0, h, y)] M = some ((0, if zbit (M a 8) h ≠ 0 then 1 else 0, 0), M) := by
  unfold zbit
  by_cases hc : zand (zshr (M a 8) h) 1 = 0
  · simp (disch := first | assumption | exact zrm0 | exact zrm1 _ | exact zrm2 _ _ | exact zrm3 _ _ _ | exact zrm4 _ _ _ _ | omega) only [m114, ↓k_dp, ↓k_dn, k_dp, k_dn, k_ip, k_in, Int.reduceAdd, zup_a, zup_e, zup_j, z32_id, k_al0, k_gI, k_il1, k_ishr, k_ic, k_iand, k_ifeq, k_goto, k_rz, e114_0, e114_1, e114_4, e114_5, e114_6, e114_7, e114_8, e114_11, e114_12, e114_15, e114_16, hc, ne_eq, not_true, if_false]
  · simp (disch := first | assumption | exact zrm0 | exact zrm1 _ | exact zrm2 _ _ | exact zrm3 _ _ _ | exact zrm4 _ _ _ _ | omega) only [m114, ↓k_dp, ↓k_dn, k_dp, k_dn, k_ip, k_in, Int.reduceAdd, zup_a, zup_e, zup_j, z32_id, k_al0, k_gI, k_il1, k_ishr, k_ic, k_iand, k_ifeq, k_goto, k_rz, e114_0, e114_1, e114_4, e114_5, e114_6, e114_7, e114_8, e114_11, e114_12, e114_15, e114_16, hc, ne_eq, not_false_iff, if_true]
theorem s_isChild (ph : Bool) (d : Nat) (a x0 h y : Int) (M : zM) : zEm ph (d + 1) 156 [(28, a, x0), (0, h, y)] M = some ((0, if zbit (M a 9) h ≠ 0 then 1 else 0, 0), M) := by
  unfold zbit
  by_cases hc : zand (zshr (M a 9) h) 1 = 0
  · simp (disch := first | assumption | exact zrm0 | exact zrm1 _ | exact zrm2 _ _ | exact zrm3 _ _ _ | exact zrm4 _ _ _ _ | omega) only [m156, ↓k_dp, ↓k_dn, k_dp, k_dn, k_ip, k_in, Int.reduceAdd, zup_a, zup_e, zup_j, z32_id, k_al0, k_gI, k_il1, k_ishr, k_ic, k_iand, k_ifeq, k_goto, k_rz, e156_0, e156_1, e156_4, e156_5, e156_6, e156_7, e156_8, e156_11, e156_12, e156_15, e156_16, hc, ne_eq, not_true, if_false]
  · simp (disch := first | assumption | exact zrm0 | exact zrm1 _ | exact zrm2 _ _ | exact zrm3 _ _ _ | exact zrm4 _ _ _ _ | omega) only [m156, ↓k_dp, ↓k_dn, k_dp, k_dn, k_ip, k_in, Int.reduceAdd, zup_a, zup_e, zup_j, z32_id, k_al0, k_gI, k_il1, k_ishr, k_ic, k_iand, k_ifeq, k_goto, k_rz, e156_0, e156_1, e156_4, e156_5, e156_6, e156_7, e156_8, e156_11, e156_12, e156_15, e156_16, hc, ne_eq, not_false_iff, if_true]
theorem s_handNoise (d : Nat) (a x0 l x1 h y w y2 more y3 : Int) (M : zM) (h0 : 0 ≤ h) (h1 : h < 10) (w0 : 0 ≤ w) (w1 : w < 2) : zEm true (d + 2) 118 [(26, a, x0), (28, l, x1), (0, h, y), (0, w, y2), (0, more, y3)] M = some ((0, sHn (zvS M a) (zvG M l) h w more, 0), M) := by
  unfold sHn sNoise
  simp (disch := omega) only [zvS_0, zvS_1, zvS_8, zvG_0]
  by_cases c1 : zbit (M a 8) h = 0 <;> by_cases c2 : zbit (M l 9) h = 0 <;> by_cases c3 : M a 9 = 1
  all_goals simp (disch := first | assumption | exact zrm0 | exact zrm1 _ | exact zrm2 _ _ | exact zrm3 _ _ _ | exact zrm4 _ _ _ _ | omega) only [m118, ↓k_dp, ↓k_dn, k_dp, k_dn, k_ip, k_in, Int.reduceAdd, zup_a, zup_e, zup_j, z32_id, k_al0, k_il2, k_v2r, k_ifeq, k_ic, k_ri, k_gR, k_ild, k_ildS, k_ildW, k_il4, k_iadd, k_is5, k_al1, k_il5, k_imul, k_gI, k_icne, k_idiv, k_il3, k_isub, k_max, zb0_some, zb1_some, e118_0, e118_1, e118_2, e118_5, e118_8, e118_9, e118_10, e118_11, e118_14, e118_15, e118_16, e118_18, e118_19, e118_21, e118_22, e118_23, e118_26, e118_29, e118_31, e118_32, e118_33, e118_35, e118_36, e118_39, e118_40, e118_43, e118_45, e118_46, e118_47, e118_49, e118_50, e118_52, e118_53, e118_56, e118_57, e118_58, e118_59, e118_62, s_isSilent, s_isChild, c1, c2, c3, ne_eq, not_true, not_false_iff, if_true, if_false]
theorem s_wayNoise (d : Nat) (a x0 l x1 g y w y2 : Int) (M : zM) (k0 : 0 ≤ M l 7) (k1 : M l 7 ≤ 10) (w0 : 0 ≤ w) (w1 : w < 2) : zEm true (d + 3) 119 [(26, a, x0), (28, l, x1), (0, g, y), (0, w, y2)] M = some ((0, sWay (zvS M a) (zvG M l) g w, 0), M) := by
  have hl := zfor (ph := true) (d := d + 2) (j := 119) (pc := 6) (fun h v => if zbit g h ≠ 0 then z32 (v + sHn (zvS M a) (zvG M l) h w 0) else v) (fun h _ => 0 ≤ h) (fun h v => [(26, a, x0), (28, l, x1), (0, g, y), (0, w, y2), (0, v, 0), (0, h, 0)]) (fun _ => M) (M l 7)
    (fun k b hk hp => ⟨by
      rw [e119_6]
      by_cases c1 : zbit g k = 0
      · have c2 := c1
        unfold zbit at c2
        simp (disch := first | assumption | exact zrm0 | exact zrm1 _ | exact zrm2 _ _ | exact zrm3 _ _ _ | exact zrm4 _ _ _ _ | omega) only [m119, ↓k_dp, ↓k_dn, k_dp, k_dn, k_ip, k_in, Int.reduceAdd, zup_a, zup_e, zup_j, z32_id, k_ic, k_is4, k_is5, k_il5, k_al1, k_gI, k_icge, k_il2, k_ishr, k_iand, k_ifeq, k_il4, k_al0, k_il3, k_v5r, k_iadd, k_inc5, k_goto, k_ifle, k_gR, k_ild, k_ildS, k_ildW, k_ri, zb0_some, zb1_some, e119_0, e119_1, e119_3, e119_4, e119_8, e119_9, e119_12, e119_15, e119_16, e119_18, e119_19, e119_20, e119_21, e119_24, e119_26, e119_27, e119_28, e119_30, e119_31, e119_32, e119_35, e119_36, e119_38, e119_41, e119_44, e119_46, e119_49, e119_51, e119_52, e119_55, e119_56, e119_57, e119_58, e119_61, e119_62, c1, c2, ne_eq, not_true, if_false]
      · have c2 := c1
        unfold zbit at c2
        simp (disch := first | assumption | exact zrm0 | exact zrm1 _ | exact zrm2 _ _ | exact zrm3 _ _ _ | exact zrm4 _ _ _ _ | omega) only [m119, ↓k_dp, ↓k_dn, k_dp, k_dn, k_ip, k_in, Int.reduceAdd, zup_a, zup_e, zup_j, z32_id, k_ic, k_is4, k_is5, k_il5, k_al1, k_gI, k_icge, k_il2, k_ishr, k_iand, k_ifeq, k_il4, k_al0, k_il3, k_v5r, k_iadd, k_inc5, k_goto, k_ifle, k_gR, k_ild, k_ildS, k_ildW, k_ri, zb0_some, zb1_some, e119_0, e119_1, e119_3, e119_4, e119_8, e119_9, e119_12, e119_15, e119_16, e119_18, e119_19, e119_20, e119_21, e119_24, e119_26, e119_27, e119_28, e119_30, e119_31, e119_32, e119_35, e119_36, e119_38, e119_41, e119_44, e119_46, e119_49, e119_51, e119_52, e119_55, e119_56, e119_57, e119_58, e119_61, e119_62, s_handNoise, c1, c2, ne_eq, not_false_iff, if_true], by omega⟩) (M l 7).toNat 0 0 (by omega) (Int.le_refl _)
  simp (disch := first | assumption | exact zrm0 | exact zrm1 _ | exact zrm2 _ _ | exact zrm3 _ _ _ | exact zrm4 _ _ _ _ | omega) only [m119, ↓k_dp, ↓k_dn, k_dp, k_dn, k_ip, k_in, Int.reduceAdd, zup_a, zup_e, zup_j, z32_id, k_ic, k_is4, k_is5, k_il5, k_al1, k_gI, k_icge, k_il2, k_ishr, k_iand, k_ifeq, k_il4, k_al0, k_il3, k_v5r, k_iadd, k_inc5, k_goto, k_ifle, k_gR, k_ild, k_ildS, k_ildW, k_ri, zb0_some, zb1_some, e119_0, e119_1, e119_3, e119_4, e119_8, e119_9, e119_12, e119_15, e119_16, e119_18, e119_19, e119_20, e119_21, e119_24, e119_26, e119_27, e119_28, e119_30, e119_31, e119_32, e119_35, e119_36, e119_38, e119_41, e119_44, e119_46, e119_49, e119_51, e119_52, e119_55, e119_56, e119_57, e119_58, e119_61, e119_62]
  rw [hl.1]
  unfold sWay sSum
  simp (disch := omega) only [zvG_0, zvG_6]
  generalize zit _ _ _ _ = v
  simp (disch := first | assumption | exact zrm0 | exact zrm1 _ | exact zrm2 _ _ | exact zrm3 _ _ _ | exact zrm4 _ _ _ _ | omega) only [m119, ↓k_dp, ↓k_dn, k_dp, k_dn, k_ip, k_in, Int.reduceAdd, zup_a, zup_e, zup_j, z32_id, k_ic, k_is4, k_is5, k_il5, k_al1, k_gI, k_icge, k_il2, k_ishr, k_iand, k_ifeq, k_il4, k_al0, k_il3, k_v5r, k_iadd, k_inc5, k_goto, k_ifle, k_gR, k_ild, k_ildS, k_ildW, k_ri, zb0_some, zb1_some, e119_0, e119_1, e119_3, e119_4, e119_6, e119_8, e119_9, e119_12, e119_15, e119_16, e119_18, e119_19, e119_20, e119_21, e119_24, e119_26, e119_27, e119_28, e119_30, e119_31, e119_32, e119_35, e119_36, e119_38, e119_41, e119_44, e119_46, e119_49, e119_51, e119_52, e119_55, e119_56, e119_57, e119_58, e119_61, e119_62]
  by_cases c : 0 < v
  · rw [dif_neg (by omega), if_pos c]
  · rw [dif_pos (by omega), if_neg c]
