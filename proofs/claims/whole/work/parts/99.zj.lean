/-! the class's orders -/
theorem m57 (ph : Bool) (d : Nat) (a x0 p0 y0 p1 y1 : Int) (M : zM) : zEm ph (d + 1) 57 [(29, a, x0), (0, p0, y0), (0, p1, y1)] M = zEv ph d 57 0 [(29, a, x0), (0, p0, y0), (0, p1, y1), (3, 0, 0)] [] M := rfl
theorem e57_0 (ph : Bool) (d : Nat) (L st : List zV) (M : zM) : zEv ph d 57 0 L st M = zcont ph d 57 (zstep ph (zEm ph d) 4 1 0 [0] L st M) := zEv_step rfl
theorem e57_1 (ph : Bool) (d : Nat) (L st : List zV) (M : zM) : zEv ph d 57 1 L st M = zcont ph d 57 (zstep ph (zEm ph d) 62 4 0 [29, 12, 80, 10, 5] L st M) := zEv_step rfl
theorem e57_4 (ph : Bool) (d : Nat) (L st : List zV) (M : zM) : zEv ph d 57 4 L st M = zcont ph d 57 (zstep ph (zEm ph d) 2 5 0 [1] L st M) := zEv_step rfl
theorem e57_5 (ph : Bool) (d : Nat) (L st : List zV) (M : zM) : zEv ph d 57 5 L st M = zcont ph d 57 (zstep ph (zEm ph d) 85 6 0 [] L st M) := zEv_step rfl
theorem e57_6 (ph : Bool) (d : Nat) (L st : List zV) (M : zM) : zEv ph d 57 6 L st M = zcont ph d 57 (zstep ph (zEm ph d) 5 7 0 [3] L st M) := zEv_step rfl
theorem e57_7 (ph : Bool) (d : Nat) (L st : List zV) (M : zM) : zEv ph d 57 7 L st M = zcont ph d 57 (zstep ph (zEm ph d) 4 8 0 [0] L st M) := zEv_step rfl
theorem e57_8 (ph : Bool) (d : Nat) (L st : List zV) (M : zM) : zEv ph d 57 8 L st M = zcont ph d 57 (zstep ph (zEm ph d) 62 11 0 [29, 12, 80, 10, 5] L st M) := zEv_step rfl
theorem e57_11 (ph : Bool) (d : Nat) (L st : List zV) (M : zM) : zEv ph d 57 11 L st M = zcont ph d 57 (zstep ph (zEm ph d) 2 12 0 [1] L st M) := zEv_step rfl
theorem e57_12 (ph : Bool) (d : Nat) (L st : List zV) (M : zM) : zEv ph d 57 12 L st M = zcont ph d 57 (zstep ph (zEm ph d) 4 13 0 [0] L st M) := zEv_step rfl
theorem e57_13 (ph : Bool) (d : Nat) (L st : List zV) (M : zM) : zEv ph d 57 13 L st M = zcont ph d 57 (zstep ph (zEm ph d) 62 16 0 [29, 12, 80, 10, 5] L st M) := zEv_step rfl
theorem e57_16 (ph : Bool) (d : Nat) (L st : List zV) (M : zM) : zEv ph d 57 16 L st M = zcont ph d 57 (zstep ph (zEm ph d) 2 17 0 [2] L st M) := zEv_step rfl
theorem e57_17 (ph : Bool) (d : Nat) (L st : List zV) (M : zM) : zEv ph d 57 17 L st M = zcont ph d 57 (zstep ph (zEm ph d) 85 18 0 [] L st M) := zEv_step rfl
theorem e57_18 (ph : Bool) (d : Nat) (L st : List zV) (M : zM) : zEv ph d 57 18 L st M = zcont ph d 57 (zstep ph (zEm ph d) 89 19 0 [] L st M) := zEv_step rfl
theorem e57_19 (ph : Bool) (d : Nat) (L st : List zV) (M : zM) : zEv ph d 57 19 L st M = zcont ph d 57 (zstep ph (zEm ph d) 4 20 0 [0] L st M) := zEv_step rfl
theorem e57_20 (ph : Bool) (d : Nat) (L st : List zV) (M : zM) : zEv ph d 57 20 L st M = zcont ph d 57 (zstep ph (zEm ph d) 62 23 0 [29, 12, 80, 10, 5] L st M) := zEv_step rfl
theorem e57_23 (ph : Bool) (d : Nat) (L st : List zV) (M : zM) : zEv ph d 57 23 L st M = zcont ph d 57 (zstep ph (zEm ph d) 2 24 0 [2] L st M) := zEv_step rfl
theorem e57_24 (ph : Bool) (d : Nat) (L st : List zV) (M : zM) : zEv ph d 57 24 L st M = zcont ph d 57 (zstep ph (zEm ph d) 2 25 0 [3] L st M) := zEv_step rfl
theorem e57_25 (ph : Bool) (d : Nat) (L st : List zV) (M : zM) : zEv ph d 57 25 L st M = zcont ph d 57 (zstep ph (zEm ph d) 89 26 0 [] L st M) := zEv_step rfl
theorem e57_26 (ph : Bool) (d : Nat) (L st : List zV) (M : zM) : zEv ph d 57 26 L st M = zcont ph d 57 (zstep ph (zEm ph d) 83 27 0 [] L st M) := zEv_step rfl
theorem m56 (ph : Bool) (d : Nat) (a x0 p0 y0 : Int) (M : zM) : zEm ph (d + 1) 56 [(29, a, x0), (0, p0, y0)] M = zEv ph d 56 0 [(29, a, x0), (0, p0, y0), (3, 0, 0), (3, 0, 0), (3, 0, 0), (3, 0, 0)] [] M := rfl
theorem e56_0 (ph : Bool) (d : Nat) (L st : List zV) (M : zM) : zEv ph d 56 0 L st M = zcont ph d 56 (zstep ph (zEm ph d) 2 1 0 [1] L st M) := zEv_step rfl
theorem e56_1 (ph : Bool) (d : Nat) (L st : List zV) (M : zM) : zEv ph d 56 1 L st M = zcont ph d 56 (zstep ph (zEm ph d) 0 2 0 [2] L st M) := zEv_step rfl
theorem e56_2 (ph : Bool) (d : Nat) (L st : List zV) (M : zM) : zEv ph d 56 2 L st M = zcont ph d 56 (zstep ph (zEm ph d) 11 3 0 [] L st M) := zEv_step rfl
theorem e56_3 (ph : Bool) (d : Nat) (L st : List zV) (M : zM) : zEv ph d 56 3 L st M = zcont ph d 56 (zstep ph (zEm ph d) 5 4 0 [2] L st M) := zEv_step rfl
theorem e56_4 (ph : Bool) (d : Nat) (L st : List zV) (M : zM) : zEv ph d 56 4 L st M = zcont ph d 56 (zstep ph (zEm ph d) 2 5 0 [2] L st M) := zEv_step rfl
theorem e56_5 (ph : Bool) (d : Nat) (L st : List zV) (M : zM) : zEv ph d 56 5 L st M = zcont ph d 56 (zstep ph (zEm ph d) 42 8 31 [] L st M) := zEv_step rfl
theorem e56_8 (ph : Bool) (d : Nat) (L st : List zV) (M : zM) : zEv ph d 56 8 L st M = zcont ph d 56 (zstep ph (zEm ph d) 4 9 0 [0] L st M) := zEv_step rfl
theorem e56_9 (ph : Bool) (d : Nat) (L st : List zV) (M : zM) : zEv ph d 56 9 L st M = zcont ph d 56 (zstep ph (zEm ph d) 62 12 0 [29, 12, 80, 10, 5] L st M) := zEv_step rfl
theorem e56_12 (ph : Bool) (d : Nat) (L st : List zV) (M : zM) : zEv ph d 56 12 L st M = zcont ph d 56 (zstep ph (zEm ph d) 2 13 0 [2] L st M) := zEv_step rfl
theorem e56_13 (ph : Bool) (d : Nat) (L st : List zV) (M : zM) : zEv ph d 56 13 L st M = zcont ph d 56 (zstep ph (zEm ph d) 85 14 0 [] L st M) := zEv_step rfl
theorem e56_14 (ph : Bool) (d : Nat) (L st : List zV) (M : zM) : zEv ph d 56 14 L st M = zcont ph d 56 (zstep ph (zEm ph d) 4 15 0 [0] L st M) := zEv_step rfl
theorem e56_15 (ph : Bool) (d : Nat) (L st : List zV) (M : zM) : zEv ph d 56 15 L st M = zcont ph d 56 (zstep ph (zEm ph d) 62 18 0 [29, 12, 80, 10, 5] L st M) := zEv_step rfl
theorem e56_18 (ph : Bool) (d : Nat) (L st : List zV) (M : zM) : zEv ph d 56 18 L st M = zcont ph d 56 (zstep ph (zEm ph d) 2 19 0 [2] L st M) := zEv_step rfl
theorem e56_19 (ph : Bool) (d : Nat) (L st : List zV) (M : zM) : zEv ph d 56 19 L st M = zcont ph d 56 (zstep ph (zEm ph d) 0 20 0 [1] L st M) := zEv_step rfl
theorem e56_20 (ph : Bool) (d : Nat) (L st : List zV) (M : zM) : zEv ph d 56 20 L st M = zcont ph d 56 (zstep ph (zEm ph d) 10 21 0 [] L st M) := zEv_step rfl
theorem e56_21 (ph : Bool) (d : Nat) (L st : List zV) (M : zM) : zEv ph d 56 21 L st M = zcont ph d 56 (zstep ph (zEm ph d) 85 22 0 [] L st M) := zEv_step rfl
theorem e56_22 (ph : Bool) (d : Nat) (L st : List zV) (M : zM) : zEv ph d 56 22 L st M = zcont ph d 56 (zstep ph (zEm ph d) 51 25 31 [] L st M) := zEv_step rfl
theorem e56_25 (ph : Bool) (d : Nat) (L st : List zV) (M : zM) : zEv ph d 56 25 L st M = zcont ph d 56 (zstep ph (zEm ph d) 8 28 0 [2, -1] L st M) := zEv_step rfl
theorem e56_28 (ph : Bool) (d : Nat) (L st : List zV) (M : zM) : zEv ph d 56 28 L st M = zcont ph d 56 (zstep ph (zEm ph d) 52 31 4 [] L st M) := zEv_step rfl
theorem e56_31 (ph : Bool) (d : Nat) (L st : List zV) (M : zM) : zEv ph d 56 31 L st M = zcont ph d 56 (zstep ph (zEm ph d) 2 32 0 [2] L st M) := zEv_step rfl
theorem e56_32 (ph : Bool) (d : Nat) (L st : List zV) (M : zM) : zEv ph d 56 32 L st M = zcont ph d 56 (zstep ph (zEm ph d) 43 35 37 [] L st M) := zEv_step rfl
theorem e56_35 (ph : Bool) (d : Nat) (L st : List zV) (M : zM) : zEv ph d 56 35 L st M = zcont ph d 56 (zstep ph (zEm ph d) 0 36 0 [0] L st M) := zEv_step rfl
theorem e56_36 (ph : Bool) (d : Nat) (L st : List zV) (M : zM) : zEv ph d 56 36 L st M = zcont ph d 56 (zstep ph (zEm ph d) 80 37 0 [0, 1] L st M) := zEv_step rfl
theorem e56_37 (ph : Bool) (d : Nat) (L st : List zV) (M : zM) : zEv ph d 56 37 L st M = zcont ph d 56 (zstep ph (zEm ph d) 2 38 0 [1] L st M) := zEv_step rfl
theorem e56_38 (ph : Bool) (d : Nat) (L st : List zV) (M : zM) : zEv ph d 56 38 L st M = zcont ph d 56 (zstep ph (zEm ph d) 0 39 0 [1] L st M) := zEv_step rfl
theorem e56_39 (ph : Bool) (d : Nat) (L st : List zV) (M : zM) : zEv ph d 56 39 L st M = zcont ph d 56 (zstep ph (zEm ph d) 11 40 0 [] L st M) := zEv_step rfl
theorem e56_40 (ph : Bool) (d : Nat) (L st : List zV) (M : zM) : zEv ph d 56 40 L st M = zcont ph d 56 (zstep ph (zEm ph d) 5 41 0 [3] L st M) := zEv_step rfl
theorem e56_41 (ph : Bool) (d : Nat) (L st : List zV) (M : zM) : zEv ph d 56 41 L st M = zcont ph d 56 (zstep ph (zEm ph d) 2 42 0 [3] L st M) := zEv_step rfl
theorem e56_42 (ph : Bool) (d : Nat) (L st : List zV) (M : zM) : zEv ph d 56 42 L st M = zcont ph d 56 (zstep ph (zEm ph d) 2 43 0 [2] L st M) := zEv_step rfl
theorem e56_43 (ph : Bool) (d : Nat) (L st : List zV) (M : zM) : zEv ph d 56 43 L st M = zcont ph d 56 (zstep ph (zEm ph d) 51 46 67 [] L st M) := zEv_step rfl
theorem e56_46 (ph : Bool) (d : Nat) (L st : List zV) (M : zM) : zEv ph d 56 46 L st M = zcont ph d 56 (zstep ph (zEm ph d) 4 47 0 [0] L st M) := zEv_step rfl
theorem e56_47 (ph : Bool) (d : Nat) (L st : List zV) (M : zM) : zEv ph d 56 47 L st M = zcont ph d 56 (zstep ph (zEm ph d) 62 50 0 [29, 12, 80, 10, 5] L st M) := zEv_step rfl
theorem e56_50 (ph : Bool) (d : Nat) (L st : List zV) (M : zM) : zEv ph d 56 50 L st M = zcont ph d 56 (zstep ph (zEm ph d) 2 51 0 [3] L st M) := zEv_step rfl
theorem e56_51 (ph : Bool) (d : Nat) (L st : List zV) (M : zM) : zEv ph d 56 51 L st M = zcont ph d 56 (zstep ph (zEm ph d) 85 52 0 [] L st M) := zEv_step rfl
theorem e56_52 (ph : Bool) (d : Nat) (L st : List zV) (M : zM) : zEv ph d 56 52 L st M = zcont ph d 56 (zstep ph (zEm ph d) 4 53 0 [0] L st M) := zEv_step rfl
theorem e56_53 (ph : Bool) (d : Nat) (L st : List zV) (M : zM) : zEv ph d 56 53 L st M = zcont ph d 56 (zstep ph (zEm ph d) 62 56 0 [29, 12, 80, 10, 5] L st M) := zEv_step rfl
theorem e56_56 (ph : Bool) (d : Nat) (L st : List zV) (M : zM) : zEv ph d 56 56 L st M = zcont ph d 56 (zstep ph (zEm ph d) 2 57 0 [2] L st M) := zEv_step rfl
theorem e56_57 (ph : Bool) (d : Nat) (L st : List zV) (M : zM) : zEv ph d 56 57 L st M = zcont ph d 56 (zstep ph (zEm ph d) 85 58 0 [] L st M) := zEv_step rfl
theorem e56_58 (ph : Bool) (d : Nat) (L st : List zV) (M : zM) : zEv ph d 56 58 L st M = zcont ph d 56 (zstep ph (zEm ph d) 49 61 67 [] L st M) := zEv_step rfl
theorem e56_61 (ph : Bool) (d : Nat) (L st : List zV) (M : zM) : zEv ph d 56 61 L st M = zcont ph d 56 (zstep ph (zEm ph d) 8 64 0 [3, -1] L st M) := zEv_step rfl
theorem e56_64 (ph : Bool) (d : Nat) (L st : List zV) (M : zM) : zEv ph d 56 64 L st M = zcont ph d 56 (zstep ph (zEm ph d) 52 67 41 [] L st M) := zEv_step rfl
theorem e56_67 (ph : Bool) (d : Nat) (L st : List zV) (M : zM) : zEv ph d 56 67 L st M = zcont ph d 56 (zstep ph (zEm ph d) 4 68 0 [0] L st M) := zEv_step rfl
theorem e56_68 (ph : Bool) (d : Nat) (L st : List zV) (M : zM) : zEv ph d 56 68 L st M = zcont ph d 56 (zstep ph (zEm ph d) 2 69 0 [2] L st M) := zEv_step rfl
theorem e56_69 (ph : Bool) (d : Nat) (L st : List zV) (M : zM) : zEv ph d 56 69 L st M = zcont ph d 56 (zstep ph (zEm ph d) 2 70 0 [3] L st M) := zEv_step rfl
theorem e56_70 (ph : Bool) (d : Nat) (L st : List zV) (M : zM) : zEv ph d 56 70 L st M = zcont ph d 56 (zstep ph (zEm ph d) 70 73 57 [3, 0, 29] L st M) := zEv_step rfl
theorem e56_73 (ph : Bool) (d : Nat) (L st : List zV) (M : zM) : zEv ph d 56 73 L st M = zcont ph d 56 (zstep ph (zEm ph d) 2 74 0 [2] L st M) := zEv_step rfl
theorem e56_74 (ph : Bool) (d : Nat) (L st : List zV) (M : zM) : zEv ph d 56 74 L st M = zcont ph d 56 (zstep ph (zEm ph d) 0 75 0 [1] L st M) := zEv_step rfl
theorem e56_75 (ph : Bool) (d : Nat) (L st : List zV) (M : zM) : zEv ph d 56 75 L st M = zcont ph d 56 (zstep ph (zEm ph d) 10 76 0 [] L st M) := zEv_step rfl
theorem e56_76 (ph : Bool) (d : Nat) (L st : List zV) (M : zM) : zEv ph d 56 76 L st M = zcont ph d 56 (zstep ph (zEm ph d) 5 78 0 [4] L st M) := zEv_step rfl
theorem e56_78 (ph : Bool) (d : Nat) (L st : List zV) (M : zM) : zEv ph d 56 78 L st M = zcont ph d 56 (zstep ph (zEm ph d) 2 79 0 [1] L st M) := zEv_step rfl
theorem e56_79 (ph : Bool) (d : Nat) (L st : List zV) (M : zM) : zEv ph d 56 79 L st M = zcont ph d 56 (zstep ph (zEm ph d) 0 80 0 [1] L st M) := zEv_step rfl
theorem e56_80 (ph : Bool) (d : Nat) (L st : List zV) (M : zM) : zEv ph d 56 80 L st M = zcont ph d 56 (zstep ph (zEm ph d) 11 81 0 [] L st M) := zEv_step rfl
theorem e56_81 (ph : Bool) (d : Nat) (L st : List zV) (M : zM) : zEv ph d 56 81 L st M = zcont ph d 56 (zstep ph (zEm ph d) 5 83 0 [5] L st M) := zEv_step rfl
theorem e56_83 (ph : Bool) (d : Nat) (L st : List zV) (M : zM) : zEv ph d 56 83 L st M = zcont ph d 56 (zstep ph (zEm ph d) 2 85 0 [4] L st M) := zEv_step rfl
theorem e56_85 (ph : Bool) (d : Nat) (L st : List zV) (M : zM) : zEv ph d 56 85 L st M = zcont ph d 56 (zstep ph (zEm ph d) 2 87 0 [5] L st M) := zEv_step rfl
theorem e56_87 (ph : Bool) (d : Nat) (L st : List zV) (M : zM) : zEv ph d 56 87 L st M = zcont ph d 56 (zstep ph (zEm ph d) 49 90 107 [] L st M) := zEv_step rfl
theorem e56_90 (ph : Bool) (d : Nat) (L st : List zV) (M : zM) : zEv ph d 56 90 L st M = zcont ph d 56 (zstep ph (zEm ph d) 4 91 0 [0] L st M) := zEv_step rfl
theorem e56_91 (ph : Bool) (d : Nat) (L st : List zV) (M : zM) : zEv ph d 56 91 L st M = zcont ph d 56 (zstep ph (zEm ph d) 2 93 0 [4] L st M) := zEv_step rfl
theorem e56_93 (ph : Bool) (d : Nat) (L st : List zV) (M : zM) : zEv ph d 56 93 L st M = zcont ph d 56 (zstep ph (zEm ph d) 2 95 0 [5] L st M) := zEv_step rfl
theorem e56_95 (ph : Bool) (d : Nat) (L st : List zV) (M : zM) : zEv ph d 56 95 L st M = zcont ph d 56 (zstep ph (zEm ph d) 70 98 57 [3, 0, 29] L st M) := zEv_step rfl
theorem e56_98 (ph : Bool) (d : Nat) (L st : List zV) (M : zM) : zEv ph d 56 98 L st M = zcont ph d 56 (zstep ph (zEm ph d) 8 101 0 [4, 1] L st M) := zEv_step rfl
theorem e56_101 (ph : Bool) (d : Nat) (L st : List zV) (M : zM) : zEv ph d 56 101 L st M = zcont ph d 56 (zstep ph (zEm ph d) 8 104 0 [5, -1] L st M) := zEv_step rfl
theorem e56_104 (ph : Bool) (d : Nat) (L st : List zV) (M : zM) : zEv ph d 56 104 L st M = zcont ph d 56 (zstep ph (zEm ph d) 52 107 83 [] L st M) := zEv_step rfl
theorem e56_107 (ph : Bool) (d : Nat) (L st : List zV) (M : zM) : zEv ph d 56 107 L st M = zcont ph d 56 (zstep ph (zEm ph d) 0 108 0 [1] L st M) := zEv_step rfl
theorem e56_108 (ph : Bool) (d : Nat) (L st : List zV) (M : zM) : zEv ph d 56 108 L st M = zcont ph d 56 (zstep ph (zEm ph d) 80 109 0 [0, 1] L st M) := zEv_step rfl
theorem m54 (ph : Bool) (d : Nat) (a x0 : Int) (M : zM) : zEm ph (d + 1) 54 [(29, a, x0)] M = zEv ph d 54 0 [(29, a, x0), (3, 0, 0), (3, 0, 0)] [] M := rfl
theorem e54_0 (ph : Bool) (d : Nat) (L st : List zV) (M : zM) : zEv ph d 54 0 L st M = zcont ph d 54 (zstep ph (zEm ph d) 0 1 0 [0] L st M) := zEv_step rfl
theorem e54_1 (ph : Bool) (d : Nat) (L st : List zV) (M : zM) : zEv ph d 54 1 L st M = zcont ph d 54 (zstep ph (zEm ph d) 5 2 0 [1] L st M) := zEv_step rfl
theorem e54_2 (ph : Bool) (d : Nat) (L st : List zV) (M : zM) : zEv ph d 54 2 L st M = zcont ph d 54 (zstep ph (zEm ph d) 0 3 0 [0] L st M) := zEv_step rfl
theorem e54_3 (ph : Bool) (d : Nat) (L st : List zV) (M : zM) : zEv ph d 54 3 L st M = zcont ph d 54 (zstep ph (zEm ph d) 5 4 0 [2] L st M) := zEv_step rfl
theorem e54_4 (ph : Bool) (d : Nat) (L st : List zV) (M : zM) : zEv ph d 54 4 L st M = zcont ph d 54 (zstep ph (zEm ph d) 2 5 0 [2] L st M) := zEv_step rfl
theorem e54_5 (ph : Bool) (d : Nat) (L st : List zV) (M : zM) : zEv ph d 54 5 L st M = zcont ph d 54 (zstep ph (zEm ph d) 4 6 0 [0] L st M) := zEv_step rfl
theorem e54_6 (ph : Bool) (d : Nat) (L st : List zV) (M : zM) : zEv ph d 54 6 L st M = zcont ph d 54 (zstep ph (zEm ph d) 62 9 0 [29, 2, 30, 28, 0] L st M) := zEv_step rfl
theorem e54_9 (ph : Bool) (d : Nat) (L st : List zV) (M : zM) : zEv ph d 54 9 L st M = zcont ph d 54 (zstep ph (zEm ph d) 60 12 0 [28, 8] L st M) := zEv_step rfl
theorem e54_12 (ph : Bool) (d : Nat) (L st : List zV) (M : zM) : zEv ph d 54 12 L st M = zcont ph d 54 (zstep ph (zEm ph d) 49 15 43 [] L st M) := zEv_step rfl
theorem e54_15 (ph : Bool) (d : Nat) (L st : List zV) (M : zM) : zEv ph d 54 15 L st M = zcont ph d 54 (zstep ph (zEm ph d) 4 16 0 [0] L st M) := zEv_step rfl
theorem e54_16 (ph : Bool) (d : Nat) (L st : List zV) (M : zM) : zEv ph d 54 16 L st M = zcont ph d 54 (zstep ph (zEm ph d) 62 19 0 [29, 3, 37, 26, 0] L st M) := zEv_step rfl
theorem e54_19 (ph : Bool) (d : Nat) (L st : List zV) (M : zM) : zEv ph d 54 19 L st M = zcont ph d 54 (zstep ph (zEm ph d) 62 22 0 [26, 4, 5, 10, 5] L st M) := zEv_step rfl
theorem e54_22 (ph : Bool) (d : Nat) (L st : List zV) (M : zM) : zEv ph d 54 22 L st M = zcont ph d 54 (zstep ph (zEm ph d) 2 23 0 [2] L st M) := zEv_step rfl
theorem e54_23 (ph : Bool) (d : Nat) (L st : List zV) (M : zM) : zEv ph d 54 23 L st M = zcont ph d 54 (zstep ph (zEm ph d) 85 24 0 [] L st M) := zEv_step rfl
theorem e54_24 (ph : Bool) (d : Nat) (L st : List zV) (M : zM) : zEv ph d 54 24 L st M = zcont ph d 54 (zstep ph (zEm ph d) 41 27 37 [] L st M) := zEv_step rfl
theorem e54_27 (ph : Bool) (d : Nat) (L st : List zV) (M : zM) : zEv ph d 54 27 L st M = zcont ph d 54 (zstep ph (zEm ph d) 4 28 0 [0] L st M) := zEv_step rfl
theorem e54_28 (ph : Bool) (d : Nat) (L st : List zV) (M : zM) : zEv ph d 54 28 L st M = zcont ph d 54 (zstep ph (zEm ph d) 62 31 0 [29, 12, 80, 10, 5] L st M) := zEv_step rfl
theorem e54_31 (ph : Bool) (d : Nat) (L st : List zV) (M : zM) : zEv ph d 54 31 L st M = zcont ph d 54 (zstep ph (zEm ph d) 2 32 0 [1] L st M) := zEv_step rfl
theorem e54_32 (ph : Bool) (d : Nat) (L st : List zV) (M : zM) : zEv ph d 54 32 L st M = zcont ph d 54 (zstep ph (zEm ph d) 2 33 0 [2] L st M) := zEv_step rfl
theorem e54_33 (ph : Bool) (d : Nat) (L st : List zV) (M : zM) : zEv ph d 54 33 L st M = zcont ph d 54 (zstep ph (zEm ph d) 89 34 0 [] L st M) := zEv_step rfl
theorem e54_34 (ph : Bool) (d : Nat) (L st : List zV) (M : zM) : zEv ph d 54 34 L st M = zcont ph d 54 (zstep ph (zEm ph d) 8 37 0 [1, 1] L st M) := zEv_step rfl
theorem e54_37 (ph : Bool) (d : Nat) (L st : List zV) (M : zM) : zEv ph d 54 37 L st M = zcont ph d 54 (zstep ph (zEm ph d) 8 40 0 [2, 1] L st M) := zEv_step rfl
theorem e54_40 (ph : Bool) (d : Nat) (L st : List zV) (M : zM) : zEv ph d 54 40 L st M = zcont ph d 54 (zstep ph (zEm ph d) 52 43 4 [] L st M) := zEv_step rfl
theorem e54_43 (ph : Bool) (d : Nat) (L st : List zV) (M : zM) : zEv ph d 54 43 L st M = zcont ph d 54 (zstep ph (zEm ph d) 2 44 0 [1] L st M) := zEv_step rfl
theorem e54_44 (ph : Bool) (d : Nat) (L st : List zV) (M : zM) : zEv ph d 54 44 L st M = zcont ph d 54 (zstep ph (zEm ph d) 80 45 0 [] L st M) := zEv_step rfl
theorem m55 (ph : Bool) (d : Nat) (a x0 p0 y0 : Int) (M : zM) : zEm ph (d + 1) 55 [(29, a, x0), (0, p0, y0)] M = zEv ph d 55 0 [(29, a, x0), (0, p0, y0), (3, 0, 0), (3, 0, 0)] [] M := rfl
theorem e55_0 (ph : Bool) (d : Nat) (L st : List zV) (M : zM) : zEv ph d 55 0 L st M = zcont ph d 55 (zstep ph (zEm ph d) 4 1 0 [0] L st M) := zEv_step rfl
theorem e55_1 (ph : Bool) (d : Nat) (L st : List zV) (M : zM) : zEv ph d 55 1 L st M = zcont ph d 55 (zstep ph (zEm ph d) 62 4 0 [29, 8, 68, 26, 0] L st M) := zEv_step rfl
theorem e55_4 (ph : Bool) (d : Nat) (L st : List zV) (M : zM) : zEv ph d 55 4 L st M = zcont ph d 55 (zstep ph (zEm ph d) 4 5 0 [0] L st M) := zEv_step rfl
theorem e55_5 (ph : Bool) (d : Nat) (L st : List zV) (M : zM) : zEv ph d 55 5 L st M = zcont ph d 55 (zstep ph (zEm ph d) 62 8 0 [29, 3, 37, 26, 0] L st M) := zEv_step rfl
theorem e55_8 (ph : Bool) (d : Nat) (L st : List zV) (M : zM) : zEv ph d 55 8 L st M = zcont ph d 55 (zstep ph (zEm ph d) 70 11 113 [2, 0, 26] L st M) := zEv_step rfl
theorem e55_11 (ph : Bool) (d : Nat) (L st : List zV) (M : zM) : zEv ph d 55 11 L st M = zcont ph d 55 (zstep ph (zEm ph d) 4 12 0 [0] L st M) := zEv_step rfl
theorem e55_12 (ph : Bool) (d : Nat) (L st : List zV) (M : zM) : zEv ph d 55 12 L st M = zcont ph d 55 (zstep ph (zEm ph d) 62 15 0 [29, 8, 68, 26, 0] L st M) := zEv_step rfl
theorem e55_15 (ph : Bool) (d : Nat) (L st : List zV) (M : zM) : zEv ph d 55 15 L st M = zcont ph d 55 (zstep ph (zEm ph d) 0 16 0 [0] L st M) := zEv_step rfl
theorem e55_16 (ph : Bool) (d : Nat) (L st : List zV) (M : zM) : zEv ph d 55 16 L st M = zcont ph d 55 (zstep ph (zEm ph d) 65 19 0 [26, 9] L st M) := zEv_step rfl
theorem e55_19 (ph : Bool) (d : Nat) (L st : List zV) (M : zM) : zEv ph d 55 19 L st M = zcont ph d 55 (zstep ph (zEm ph d) 0 20 0 [0] L st M) := zEv_step rfl
theorem e55_20 (ph : Bool) (d : Nat) (L st : List zV) (M : zM) : zEv ph d 55 20 L st M = zcont ph d 55 (zstep ph (zEm ph d) 5 21 0 [2] L st M) := zEv_step rfl
theorem e55_21 (ph : Bool) (d : Nat) (L st : List zV) (M : zM) : zEv ph d 55 21 L st M = zcont ph d 55 (zstep ph (zEm ph d) 0 22 0 [0] L st M) := zEv_step rfl
theorem e55_22 (ph : Bool) (d : Nat) (L st : List zV) (M : zM) : zEv ph d 55 22 L st M = zcont ph d 55 (zstep ph (zEm ph d) 5 23 0 [3] L st M) := zEv_step rfl
theorem e55_23 (ph : Bool) (d : Nat) (L st : List zV) (M : zM) : zEv ph d 55 23 L st M = zcont ph d 55 (zstep ph (zEm ph d) 2 24 0 [3] L st M) := zEv_step rfl
theorem e55_24 (ph : Bool) (d : Nat) (L st : List zV) (M : zM) : zEv ph d 55 24 L st M = zcont ph d 55 (zstep ph (zEm ph d) 2 25 0 [1] L st M) := zEv_step rfl
theorem e55_25 (ph : Bool) (d : Nat) (L st : List zV) (M : zM) : zEv ph d 55 25 L st M = zcont ph d 55 (zstep ph (zEm ph d) 49 28 74 [] L st M) := zEv_step rfl
theorem e55_28 (ph : Bool) (d : Nat) (L st : List zV) (M : zM) : zEv ph d 55 28 L st M = zcont ph d 55 (zstep ph (zEm ph d) 4 29 0 [0] L st M) := zEv_step rfl
theorem e55_29 (ph : Bool) (d : Nat) (L st : List zV) (M : zM) : zEv ph d 55 29 L st M = zcont ph d 55 (zstep ph (zEm ph d) 62 32 0 [29, 8, 68, 26, 0] L st M) := zEv_step rfl
theorem e55_32 (ph : Bool) (d : Nat) (L st : List zV) (M : zM) : zEv ph d 55 32 L st M = zcont ph d 55 (zstep ph (zEm ph d) 4 33 0 [0] L st M) := zEv_step rfl
theorem e55_33 (ph : Bool) (d : Nat) (L st : List zV) (M : zM) : zEv ph d 55 33 L st M = zcont ph d 55 (zstep ph (zEm ph d) 62 36 0 [29, 2, 30, 28, 0] L st M) := zEv_step rfl
theorem e55_36 (ph : Bool) (d : Nat) (L st : List zV) (M : zM) : zEv ph d 55 36 L st M = zcont ph d 55 (zstep ph (zEm ph d) 4 37 0 [0] L st M) := zEv_step rfl
theorem e55_37 (ph : Bool) (d : Nat) (L st : List zV) (M : zM) : zEv ph d 55 37 L st M = zcont ph d 55 (zstep ph (zEm ph d) 62 40 0 [29, 12, 80, 10, 5] L st M) := zEv_step rfl
theorem e55_40 (ph : Bool) (d : Nat) (L st : List zV) (M : zM) : zEv ph d 55 40 L st M = zcont ph d 55 (zstep ph (zEm ph d) 2 41 0 [3] L st M) := zEv_step rfl
theorem e55_41 (ph : Bool) (d : Nat) (L st : List zV) (M : zM) : zEv ph d 55 41 L st M = zcont ph d 55 (zstep ph (zEm ph d) 85 42 0 [] L st M) := zEv_step rfl
theorem e55_42 (ph : Bool) (d : Nat) (L st : List zV) (M : zM) : zEv ph d 55 42 L st M = zcont ph d 55 (zstep ph (zEm ph d) 70 45 121 [3, 1, 26] L st M) := zEv_step rfl
theorem e55_45 (ph : Bool) (d : Nat) (L st : List zV) (M : zM) : zEv ph d 55 45 L st M = zcont ph d 55 (zstep ph (zEm ph d) 40 48 68 [] L st M) := zEv_step rfl
theorem e55_48 (ph : Bool) (d : Nat) (L st : List zV) (M : zM) : zEv ph d 55 48 L st M = zcont ph d 55 (zstep ph (zEm ph d) 4 49 0 [0] L st M) := zEv_step rfl
theorem e55_49 (ph : Bool) (d : Nat) (L st : List zV) (M : zM) : zEv ph d 55 49 L st M = zcont ph d 55 (zstep ph (zEm ph d) 62 52 0 [29, 8, 68, 26, 0] L st M) := zEv_step rfl
theorem e55_52 (ph : Bool) (d : Nat) (L st : List zV) (M : zM) : zEv ph d 55 52 L st M = zcont ph d 55 (zstep ph (zEm ph d) 4 53 0 [0] L st M) := zEv_step rfl
theorem e55_53 (ph : Bool) (d : Nat) (L st : List zV) (M : zM) : zEv ph d 55 53 L st M = zcont ph d 55 (zstep ph (zEm ph d) 62 56 0 [29, 2, 30, 28, 0] L st M) := zEv_step rfl
theorem e55_56 (ph : Bool) (d : Nat) (L st : List zV) (M : zM) : zEv ph d 55 56 L st M = zcont ph d 55 (zstep ph (zEm ph d) 4 57 0 [0] L st M) := zEv_step rfl
theorem e55_57 (ph : Bool) (d : Nat) (L st : List zV) (M : zM) : zEv ph d 55 57 L st M = zcont ph d 55 (zstep ph (zEm ph d) 62 60 0 [29, 12, 80, 10, 5] L st M) := zEv_step rfl
theorem e55_60 (ph : Bool) (d : Nat) (L st : List zV) (M : zM) : zEv ph d 55 60 L st M = zcont ph d 55 (zstep ph (zEm ph d) 2 61 0 [3] L st M) := zEv_step rfl
theorem e55_61 (ph : Bool) (d : Nat) (L st : List zV) (M : zM) : zEv ph d 55 61 L st M = zcont ph d 55 (zstep ph (zEm ph d) 85 62 0 [] L st M) := zEv_step rfl
theorem e55_62 (ph : Bool) (d : Nat) (L st : List zV) (M : zM) : zEv ph d 55 62 L st M = zcont ph d 55 (zstep ph (zEm ph d) 70 65 130 [3, 0, 26] L st M) := zEv_step rfl
theorem e55_65 (ph : Bool) (d : Nat) (L st : List zV) (M : zM) : zEv ph d 55 65 L st M = zcont ph d 55 (zstep ph (zEm ph d) 8 68 0 [2, 1] L st M) := zEv_step rfl
theorem e55_68 (ph : Bool) (d : Nat) (L st : List zV) (M : zM) : zEv ph d 55 68 L st M = zcont ph d 55 (zstep ph (zEm ph d) 8 71 0 [3, 1] L st M) := zEv_step rfl
theorem e55_71 (ph : Bool) (d : Nat) (L st : List zV) (M : zM) : zEv ph d 55 71 L st M = zcont ph d 55 (zstep ph (zEm ph d) 52 74 23 [] L st M) := zEv_step rfl
theorem e55_74 (ph : Bool) (d : Nat) (L st : List zV) (M : zM) : zEv ph d 55 74 L st M = zcont ph d 55 (zstep ph (zEm ph d) 2 75 0 [2] L st M) := zEv_step rfl
theorem e55_75 (ph : Bool) (d : Nat) (L st : List zV) (M : zM) : zEv ph d 55 75 L st M = zcont ph d 55 (zstep ph (zEm ph d) 80 76 0 [] L st M) := zEv_step rfl
theorem m29 (ph : Bool) (d : Nat) (a x0 : Int) (M : zM) : zEm ph (d + 1) 29 [(29, a, x0)] M = zEv ph d 29 0 [(29, a, x0), (3, 0, 0), (3, 0, 0), (3, 0, 0), (3, 0, 0)] [] M := rfl
theorem e29_0 (ph : Bool) (d : Nat) (L st : List zV) (M : zM) : zEv ph d 29 0 L st M = zcont ph d 29 (zstep ph (zEm ph d) 4 1 0 [0] L st M) := zEv_step rfl
theorem e29_1 (ph : Bool) (d : Nat) (L st : List zV) (M : zM) : zEv ph d 29 1 L st M = zcont ph d 29 (zstep ph (zEm ph d) 70 4 54 [1, 1, 29] L st M) := zEv_step rfl
theorem e29_4 (ph : Bool) (d : Nat) (L st : List zV) (M : zM) : zEv ph d 29 4 L st M = zcont ph d 29 (zstep ph (zEm ph d) 5 5 0 [1] L st M) := zEv_step rfl
theorem e29_5 (ph : Bool) (d : Nat) (L st : List zV) (M : zM) : zEv ph d 29 5 L st M = zcont ph d 29 (zstep ph (zEm ph d) 0 6 0 [-1] L st M) := zEv_step rfl
theorem e29_6 (ph : Bool) (d : Nat) (L st : List zV) (M : zM) : zEv ph d 29 6 L st M = zcont ph d 29 (zstep ph (zEm ph d) 5 7 0 [2] L st M) := zEv_step rfl
theorem e29_7 (ph : Bool) (d : Nat) (L st : List zV) (M : zM) : zEv ph d 29 7 L st M = zcont ph d 29 (zstep ph (zEm ph d) 0 8 0 [0] L st M) := zEv_step rfl
theorem e29_8 (ph : Bool) (d : Nat) (L st : List zV) (M : zM) : zEv ph d 29 8 L st M = zcont ph d 29 (zstep ph (zEm ph d) 5 9 0 [3] L st M) := zEv_step rfl
theorem e29_9 (ph : Bool) (d : Nat) (L st : List zV) (M : zM) : zEv ph d 29 9 L st M = zcont ph d 29 (zstep ph (zEm ph d) 2 10 0 [3] L st M) := zEv_step rfl
theorem e29_10 (ph : Bool) (d : Nat) (L st : List zV) (M : zM) : zEv ph d 29 10 L st M = zcont ph d 29 (zstep ph (zEm ph d) 0 12 0 [120] L st M) := zEv_step rfl
theorem e29_12 (ph : Bool) (d : Nat) (L st : List zV) (M : zM) : zEv ph d 29 12 L st M = zcont ph d 29 (zstep ph (zEm ph d) 49 15 65 [] L st M) := zEv_step rfl
theorem e29_15 (ph : Bool) (d : Nat) (L st : List zV) (M : zM) : zEv ph d 29 15 L st M = zcont ph d 29 (zstep ph (zEm ph d) 4 16 0 [0] L st M) := zEv_step rfl
theorem e29_16 (ph : Bool) (d : Nat) (L st : List zV) (M : zM) : zEv ph d 29 16 L st M = zcont ph d 29 (zstep ph (zEm ph d) 2 17 0 [1] L st M) := zEv_step rfl
theorem e29_17 (ph : Bool) (d : Nat) (L st : List zV) (M : zM) : zEv ph d 29 17 L st M = zcont ph d 29 (zstep ph (zEm ph d) 70 20 55 [2, 1, 29] L st M) := zEv_step rfl
theorem e29_20 (ph : Bool) (d : Nat) (L st : List zV) (M : zM) : zEv ph d 29 20 L st M = zcont ph d 29 (zstep ph (zEm ph d) 5 22 0 [4] L st M) := zEv_step rfl
theorem e29_22 (ph : Bool) (d : Nat) (L st : List zV) (M : zM) : zEv ph d 29 22 L st M = zcont ph d 29 (zstep ph (zEm ph d) 2 24 0 [4] L st M) := zEv_step rfl
theorem e29_24 (ph : Bool) (d : Nat) (L st : List zV) (M : zM) : zEv ph d 29 24 L st M = zcont ph d 29 (zstep ph (zEm ph d) 2 25 0 [2] L st M) := zEv_step rfl
theorem e29_25 (ph : Bool) (d : Nat) (L st : List zV) (M : zM) : zEv ph d 29 25 L st M = zcont ph d 29 (zstep ph (zEm ph d) 51 28 48 [] L st M) := zEv_step rfl
theorem e29_28 (ph : Bool) (d : Nat) (L st : List zV) (M : zM) : zEv ph d 29 28 L st M = zcont ph d 29 (zstep ph (zEm ph d) 2 30 0 [4] L st M) := zEv_step rfl
theorem e29_30 (ph : Bool) (d : Nat) (L st : List zV) (M : zM) : zEv ph d 29 30 L st M = zcont ph d 29 (zstep ph (zEm ph d) 5 31 0 [2] L st M) := zEv_step rfl
theorem e29_31 (ph : Bool) (d : Nat) (L st : List zV) (M : zM) : zEv ph d 29 31 L st M = zcont ph d 29 (zstep ph (zEm ph d) 4 32 0 [0] L st M) := zEv_step rfl
theorem e29_32 (ph : Bool) (d : Nat) (L st : List zV) (M : zM) : zEv ph d 29 32 L st M = zcont ph d 29 (zstep ph (zEm ph d) 62 35 0 [29, 12, 80, 10, 5] L st M) := zEv_step rfl
theorem e29_35 (ph : Bool) (d : Nat) (L st : List zV) (M : zM) : zEv ph d 29 35 L st M = zcont ph d 29 (zstep ph (zEm ph d) 0 36 0 [0] L st M) := zEv_step rfl
theorem e29_36 (ph : Bool) (d : Nat) (L st : List zV) (M : zM) : zEv ph d 29 36 L st M = zcont ph d 29 (zstep ph (zEm ph d) 4 37 0 [0] L st M) := zEv_step rfl
theorem e29_37 (ph : Bool) (d : Nat) (L st : List zV) (M : zM) : zEv ph d 29 37 L st M = zcont ph d 29 (zstep ph (zEm ph d) 62 40 0 [29, 5, 51, 22, 0] L st M) := zEv_step rfl
theorem e29_40 (ph : Bool) (d : Nat) (L st : List zV) (M : zM) : zEv ph d 29 40 L st M = zcont ph d 29 (zstep ph (zEm ph d) 62 43 0 [22, 5, 2, 10, 5] L st M) := zEv_step rfl
theorem e29_43 (ph : Bool) (d : Nat) (L st : List zV) (M : zM) : zEv ph d 29 43 L st M = zcont ph d 29 (zstep ph (zEm ph d) 0 44 0 [0] L st M) := zEv_step rfl
theorem e29_44 (ph : Bool) (d : Nat) (L st : List zV) (M : zM) : zEv ph d 29 44 L st M = zcont ph d 29 (zstep ph (zEm ph d) 2 45 0 [1] L st M) := zEv_step rfl
theorem e29_45 (ph : Bool) (d : Nat) (L st : List zV) (M : zM) : zEv ph d 29 45 L st M = zcont ph d 29 (zstep ph (zEm ph d) 74 48 0 [] L st M) := zEv_step rfl
theorem e29_48 (ph : Bool) (d : Nat) (L st : List zV) (M : zM) : zEv ph d 29 48 L st M = zcont ph d 29 (zstep ph (zEm ph d) 4 49 0 [0] L st M) := zEv_step rfl
theorem e29_49 (ph : Bool) (d : Nat) (L st : List zV) (M : zM) : zEv ph d 29 49 L st M = zcont ph d 29 (zstep ph (zEm ph d) 2 50 0 [1] L st M) := zEv_step rfl
theorem e29_50 (ph : Bool) (d : Nat) (L st : List zV) (M : zM) : zEv ph d 29 50 L st M = zcont ph d 29 (zstep ph (zEm ph d) 70 53 56 [2, 1, 29] L st M) := zEv_step rfl
theorem e29_53 (ph : Bool) (d : Nat) (L st : List zV) (M : zM) : zEv ph d 29 53 L st M = zcont ph d 29 (zstep ph (zEm ph d) 41 56 59 [] L st M) := zEv_step rfl
theorem e29_56 (ph : Bool) (d : Nat) (L st : List zV) (M : zM) : zEv ph d 29 56 L st M = zcont ph d 29 (zstep ph (zEm ph d) 52 59 65 [] L st M) := zEv_step rfl
theorem e29_59 (ph : Bool) (d : Nat) (L st : List zV) (M : zM) : zEv ph d 29 59 L st M = zcont ph d 29 (zstep ph (zEm ph d) 8 62 0 [3, 1] L st M) := zEv_step rfl
theorem e29_62 (ph : Bool) (d : Nat) (L st : List zV) (M : zM) : zEv ph d 29 62 L st M = zcont ph d 29 (zstep ph (zEm ph d) 52 65 9 [] L st M) := zEv_step rfl
theorem e29_65 (ph : Bool) (d : Nat) (L st : List zV) (M : zM) : zEv ph d 29 65 L st M = zcont ph d 29 (zstep ph (zEm ph d) 4 66 0 [0] L st M) := zEv_step rfl
theorem e29_66 (ph : Bool) (d : Nat) (L st : List zV) (M : zM) : zEv ph d 29 66 L st M = zcont ph d 29 (zstep ph (zEm ph d) 62 69 0 [29, 5, 51, 22, 0] L st M) := zEv_step rfl
theorem e29_69 (ph : Bool) (d : Nat) (L st : List zV) (M : zM) : zEv ph d 29 69 L st M = zcont ph d 29 (zstep ph (zEm ph d) 2 70 0 [1] L st M) := zEv_step rfl
theorem e29_70 (ph : Bool) (d : Nat) (L st : List zV) (M : zM) : zEv ph d 29 70 L st M = zcont ph d 29 (zstep ph (zEm ph d) 65 73 0 [22, 6] L st M) := zEv_step rfl
theorem e29_73 (ph : Bool) (d : Nat) (L st : List zV) (M : zM) : zEv ph d 29 73 L st M = zcont ph d 29 (zstep ph (zEm ph d) 2 74 0 [2] L st M) := zEv_step rfl
theorem e29_74 (ph : Bool) (d : Nat) (L st : List zV) (M : zM) : zEv ph d 29 74 L st M = zcont ph d 29 (zstep ph (zEm ph d) 80 75 0 [] L st M) := zEv_step rfl
theorem c_swap (d : Nat) (x0 i y j y2 : Int) (M : zM) (i0 : 0 ≤ i) (i1 : i < 5) (j0 : 0 ≤ j) (j1 : j < 5) : zEm true (d + 1) 57 [(29, 0, x0), (0, i, y), (0, j, y2)] M = some ((98, 0, 0), zup (zup M 80 i (M 80 j)) 80 j (M 80 i)) := by
  simp (disch := first | assumption | exact zrm0 | exact zrm1 _ | exact zrm2 _ _ | exact zrm3 _ _ _ | exact zrm4 _ _ _ _ | omega) only [m57, ↓k_dp, ↓k_dn, k_dp, k_dn, k_dT, k_dF, k_ip, k_in, if_true, if_false, ne_eq, not_true_eq_false, not_false_eq_true, Int.reduceAdd, zup_a, zup_e, zup_j, z32_id, k_al0, k_gR, k_il1, k_ild, k_ildS, k_ildW, k_is3, k_il2, k_ist, k_il3, k_rv, e57_0, e57_1, e57_4, e57_5, e57_6, e57_7, e57_8, e57_11, e57_12, e57_13, e57_16, e57_17, e57_18, e57_19, e57_20, e57_23, e57_24, e57_25, e57_26]
theorem swp_row {M : zM} {i j : Int} : zup (zup M 80 i (M 80 j)) 80 j (M 80 i) 80 = swpR (M 80) i j := by
  funext y
  unfold swpR
  by_cases c1 : y = j
  · rw [if_pos c1, c1, zup_e (by omega)]
  · rw [if_neg c1, zup_j c1]
    by_cases c2 : y = i
    · rw [if_pos c2, c2, zup_e (by omega)]
    · rw [if_neg c2, zup_j c2]
theorem c_rev (d : Nat) (x0 n y i j : Int) : ∀ (f : Nat) (lo hi : Int) (M : zM), 0 ≤ lo → hi < 5 → hi - lo ≤ 2 * f → ∃ M', zEv true (d + 1) 56 83 [(29, 0, x0), (0, n, y), (0, i, 0), (0, j, 0), (0, lo, 0), (0, hi, 0)] [] M = some ((0, 1, 0), M') ∧ (∀ x y, x ≠ 80 → M' x y = M x y) ∧ M' 80 = revR f lo hi (M 80)
  | 0, lo, hi, M, l0, h1, hf => by
    refine ⟨M, ?_, fun _ _ _ => rfl, rfl⟩
    rw [e56_83]
    simp (disch := first | assumption | exact zrm0 | exact zrm1 _ | exact zrm2 _ _ | exact zrm3 _ _ _ | exact zrm4 _ _ _ _ | omega) only [m56, ↓k_dp, ↓k_dn, k_dp, k_dn, k_dT, k_dF, k_ip, k_in, if_true, if_false, ne_eq, not_true_eq_false, not_false_eq_true, Int.reduceAdd, zup_a, zup_e, zup_j, z32_id, k_il1, k_ic, k_isub, k_is2, k_il2, k_iflt, k_al0, k_gR, k_ild, k_ildS, k_ildW, k_iadd, k_icle, k_inc2, k_goto, k_ifge, k_rz, k_is3, k_il3, k_icge, k_inc3, k_v3, k_is4, k_is5, k_il4, k_il5, k_inc4, k_inc5, zb0_some, zb1_some, e56_0, e56_1, e56_2, e56_3, e56_4, e56_5, e56_8, e56_9, e56_12, e56_13, e56_14, e56_15, e56_18, e56_19, e56_20, e56_21, e56_22, e56_25, e56_28, e56_31, e56_32, e56_35, e56_36, e56_37, e56_38, e56_39, e56_40, e56_41, e56_42, e56_43, e56_46, e56_47, e56_50, e56_51, e56_52, e56_53, e56_56, e56_57, e56_58, e56_61, e56_64, e56_67, e56_68, e56_69, e56_70, e56_73, e56_74, e56_75, e56_76, e56_78, e56_79, e56_80, e56_81, e56_85, e56_87, e56_90, e56_91, e56_93, e56_95, e56_98, e56_101, e56_104, e56_107, e56_108]
  | f + 1, lo, hi, M, l0, h1, hf => by
    by_cases c : lo < hi
    · obtain ⟨M', a1, a2, a3⟩ := c_rev d x0 n y i j f (lo + 1) (hi - 1) (zup (zup M 80 lo (M 80 hi)) 80 hi (M 80 lo)) (by omega) (by omega) (by omega)
      refine ⟨M', ?_, fun x y h => by rw [a2 x y h, zup_a h, zup_a h], ?_⟩
      · rw [e56_83]
        simp (disch := first | assumption | exact zrm0 | exact zrm1 _ | exact zrm2 _ _ | exact zrm3 _ _ _ | exact zrm4 _ _ _ _ | omega) only [m56, ↓k_dp, ↓k_dn, k_dp, k_dn, k_dT, k_dF, k_ip, k_in, if_true, if_false, ne_eq, not_true_eq_false, not_false_eq_true, Int.reduceAdd, zup_a, zup_e, zup_j, z32_id, k_il1, k_ic, k_isub, k_is2, k_il2, k_iflt, k_al0, k_gR, k_ild, k_ildS, k_ildW, k_iadd, k_icle, k_inc2, k_goto, k_ifge, k_rz, k_is3, k_il3, k_icge, k_inc3, k_v3, k_is4, k_is5, k_il4, k_il5, k_inc4, k_inc5, zb0_some, zb1_some, e56_0, e56_1, e56_2, e56_3, e56_4, e56_5, e56_8, e56_9, e56_12, e56_13, e56_14, e56_15, e56_18, e56_19, e56_20, e56_21, e56_22, e56_25, e56_28, e56_31, e56_32, e56_35, e56_36, e56_37, e56_38, e56_39, e56_40, e56_41, e56_42, e56_43, e56_46, e56_47, e56_50, e56_51, e56_52, e56_53, e56_56, e56_57, e56_58, e56_61, e56_64, e56_67, e56_68, e56_69, e56_70, e56_73, e56_74, e56_75, e56_76, e56_78, e56_79, e56_80, e56_81, e56_85, e56_87, e56_90, e56_91, e56_93, e56_95, e56_98, e56_101, e56_104, e56_107, e56_108, c_swap, Int.reduceNeg, ← Int.sub_eq_add_neg]
        exact a1
      · rw [a3, swp_row]
        show _ = (if lo < hi then _ else _)
        rw [if_pos c]
    · refine ⟨M, ?_, fun _ _ _ => rfl, ?_⟩
      · rw [e56_83]
        simp (disch := first | assumption | exact zrm0 | exact zrm1 _ | exact zrm2 _ _ | exact zrm3 _ _ _ | exact zrm4 _ _ _ _ | omega) only [m56, ↓k_dp, ↓k_dn, k_dp, k_dn, k_dT, k_dF, k_ip, k_in, if_true, if_false, ne_eq, not_true_eq_false, not_false_eq_true, Int.reduceAdd, zup_a, zup_e, zup_j, z32_id, k_il1, k_ic, k_isub, k_is2, k_il2, k_iflt, k_al0, k_gR, k_ild, k_ildS, k_ildW, k_iadd, k_icle, k_inc2, k_goto, k_ifge, k_rz, k_is3, k_il3, k_icge, k_inc3, k_v3, k_is4, k_is5, k_il4, k_il5, k_inc4, k_inc5, zb0_some, zb1_some, e56_0, e56_1, e56_2, e56_3, e56_4, e56_5, e56_8, e56_9, e56_12, e56_13, e56_14, e56_15, e56_18, e56_19, e56_20, e56_21, e56_22, e56_25, e56_28, e56_31, e56_32, e56_35, e56_36, e56_37, e56_38, e56_39, e56_40, e56_41, e56_42, e56_43, e56_46, e56_47, e56_50, e56_51, e56_52, e56_53, e56_56, e56_57, e56_58, e56_61, e56_64, e56_67, e56_68, e56_69, e56_70, e56_73, e56_74, e56_75, e56_76, e56_78, e56_79, e56_80, e56_81, e56_85, e56_87, e56_90, e56_91, e56_93, e56_95, e56_98, e56_101, e56_104, e56_107, e56_108]
      · show _ = (if lo < hi then _ else _)
        rw [if_neg c]
theorem c_nxI (d : Nat) (x0 n y : Int) (M : zM) : ∀ (f : Nat) (i : Int), i < 4 → -2 ≤ i → i < f → zEv true (d + 1) 56 4 [(29, 0, x0), (0, n, y), (0, i, 0), (3, 0, 0), (3, 0, 0), (3, 0, 0)] [] M = zEv true (d + 1) 56 31 [(29, 0, x0), (0, n, y), (0, nxI (M 80) f i, 0), (3, 0, 0), (3, 0, 0), (3, 0, 0)] [] M
  | 0, i, i1, i2, hf => by
    rw [e56_4]
    simp (disch := first | assumption | exact zrm0 | exact zrm1 _ | exact zrm2 _ _ | exact zrm3 _ _ _ | exact zrm4 _ _ _ _ | omega) only [m56, ↓k_dp, ↓k_dn, k_dp, k_dn, k_dT, k_dF, k_ip, k_in, if_true, if_false, ne_eq, not_true_eq_false, not_false_eq_true, Int.reduceAdd, zup_a, zup_e, zup_j, z32_id, k_il1, k_ic, k_isub, k_is2, k_il2, k_iflt, k_al0, k_gR, k_ild, k_ildS, k_ildW, k_iadd, k_icle, k_inc2, k_goto, k_ifge, k_rz, k_is3, k_il3, k_icge, k_inc3, k_v3, k_is4, k_is5, k_il4, k_il5, k_inc4, k_inc5, zb0_some, zb1_some, e56_0, e56_1, e56_2, e56_3, e56_5, e56_8, e56_9, e56_12, e56_13, e56_14, e56_15, e56_18, e56_19, e56_20, e56_21, e56_22, e56_25, e56_28, e56_32, e56_35, e56_36, e56_37, e56_38, e56_39, e56_40, e56_41, e56_42, e56_43, e56_46, e56_47, e56_50, e56_51, e56_52, e56_53, e56_56, e56_57, e56_58, e56_61, e56_64, e56_67, e56_68, e56_69, e56_70, e56_73, e56_74, e56_75, e56_76, e56_78, e56_79, e56_80, e56_81, e56_83, e56_85, e56_87, e56_90, e56_91, e56_93, e56_95, e56_98, e56_101, e56_104, e56_107, e56_108]
    rfl
  | f + 1, i, i1, i2, hf => by
    unfold nxI
    by_cases c : i < 0
    · rw [if_pos c, e56_4]
      simp (disch := first | assumption | exact zrm0 | exact zrm1 _ | exact zrm2 _ _ | exact zrm3 _ _ _ | exact zrm4 _ _ _ _ | omega) only [m56, ↓k_dp, ↓k_dn, k_dp, k_dn, k_dT, k_dF, k_ip, k_in, if_true, if_false, ne_eq, not_true_eq_false, not_false_eq_true, Int.reduceAdd, zup_a, zup_e, zup_j, z32_id, k_il1, k_ic, k_isub, k_is2, k_il2, k_iflt, k_al0, k_gR, k_ild, k_ildS, k_ildW, k_iadd, k_icle, k_inc2, k_goto, k_ifge, k_rz, k_is3, k_il3, k_icge, k_inc3, k_v3, k_is4, k_is5, k_il4, k_il5, k_inc4, k_inc5, zb0_some, zb1_some, e56_0, e56_1, e56_2, e56_3, e56_5, e56_8, e56_9, e56_12, e56_13, e56_14, e56_15, e56_18, e56_19, e56_20, e56_21, e56_22, e56_25, e56_28, e56_32, e56_35, e56_36, e56_37, e56_38, e56_39, e56_40, e56_41, e56_42, e56_43, e56_46, e56_47, e56_50, e56_51, e56_52, e56_53, e56_56, e56_57, e56_58, e56_61, e56_64, e56_67, e56_68, e56_69, e56_70, e56_73, e56_74, e56_75, e56_76, e56_78, e56_79, e56_80, e56_81, e56_83, e56_85, e56_87, e56_90, e56_91, e56_93, e56_95, e56_98, e56_101, e56_104, e56_107, e56_108]
    · rw [if_neg c]
      by_cases c2 : M 80 (i + 1) < M 80 i
      · rw [if_pos c2, ← c_nxI d x0 n y M f (i - 1) (by omega) (by omega) (by omega), e56_4]
        simp (disch := first | assumption | exact zrm0 | exact zrm1 _ | exact zrm2 _ _ | exact zrm3 _ _ _ | exact zrm4 _ _ _ _ | omega) only [m56, ↓k_dp, ↓k_dn, k_dp, k_dn, k_dT, k_dF, k_ip, k_in, if_true, if_false, ne_eq, not_true_eq_false, not_false_eq_true, Int.reduceAdd, zup_a, zup_e, zup_j, z32_id, k_il1, k_ic, k_isub, k_is2, k_il2, k_iflt, k_al0, k_gR, k_ild, k_ildS, k_ildW, k_iadd, k_icle, k_inc2, k_goto, k_ifge, k_rz, k_is3, k_il3, k_icge, k_inc3, k_v3, k_is4, k_is5, k_il4, k_il5, k_inc4, k_inc5, zb0_some, zb1_some, e56_0, e56_1, e56_2, e56_3, e56_5, e56_8, e56_9, e56_12, e56_13, e56_14, e56_15, e56_18, e56_19, e56_20, e56_21, e56_22, e56_25, e56_28, e56_32, e56_35, e56_36, e56_37, e56_38, e56_39, e56_40, e56_41, e56_42, e56_43, e56_46, e56_47, e56_50, e56_51, e56_52, e56_53, e56_56, e56_57, e56_58, e56_61, e56_64, e56_67, e56_68, e56_69, e56_70, e56_73, e56_74, e56_75, e56_76, e56_78, e56_79, e56_80, e56_81, e56_83, e56_85, e56_87, e56_90, e56_91, e56_93, e56_95, e56_98, e56_101, e56_104, e56_107, e56_108, Int.reduceNeg, ← Int.sub_eq_add_neg]
      · rw [if_neg c2, e56_4]
        simp (disch := first | assumption | exact zrm0 | exact zrm1 _ | exact zrm2 _ _ | exact zrm3 _ _ _ | exact zrm4 _ _ _ _ | omega) only [m56, ↓k_dp, ↓k_dn, k_dp, k_dn, k_dT, k_dF, k_ip, k_in, if_true, if_false, ne_eq, not_true_eq_false, not_false_eq_true, Int.reduceAdd, zup_a, zup_e, zup_j, z32_id, k_il1, k_ic, k_isub, k_is2, k_il2, k_iflt, k_al0, k_gR, k_ild, k_ildS, k_ildW, k_iadd, k_icle, k_inc2, k_goto, k_ifge, k_rz, k_is3, k_il3, k_icge, k_inc3, k_v3, k_is4, k_is5, k_il4, k_il5, k_inc4, k_inc5, zb0_some, zb1_some, e56_0, e56_1, e56_2, e56_3, e56_5, e56_8, e56_9, e56_12, e56_13, e56_14, e56_15, e56_18, e56_19, e56_20, e56_21, e56_22, e56_25, e56_28, e56_32, e56_35, e56_36, e56_37, e56_38, e56_39, e56_40, e56_41, e56_42, e56_43, e56_46, e56_47, e56_50, e56_51, e56_52, e56_53, e56_56, e56_57, e56_58, e56_61, e56_64, e56_67, e56_68, e56_69, e56_70, e56_73, e56_74, e56_75, e56_76, e56_78, e56_79, e56_80, e56_81, e56_83, e56_85, e56_87, e56_90, e56_91, e56_93, e56_95, e56_98, e56_101, e56_104, e56_107, e56_108]
theorem c_nxJ (d : Nat) (x0 n y i : Int) (M : zM) (i0 : 0 ≤ i) (i4 : i < 5) : ∀ (f : Nat) (j : Int), j < 5 → i ≤ j → j < i + 1 + f → zEv true (d + 1) 56 41 [(29, 0, x0), (0, n, y), (0, i, 0), (0, j, 0), (3, 0, 0), (3, 0, 0)] [] M = zEv true (d + 1) 56 67 [(29, 0, x0), (0, n, y), (0, i, 0), (0, nxJ (M 80) i f j, 0), (3, 0, 0), (3, 0, 0)] [] M
  | 0, j, j1, j2, hf => by
    rw [e56_41]
    simp (disch := first | assumption | exact zrm0 | exact zrm1 _ | exact zrm2 _ _ | exact zrm3 _ _ _ | exact zrm4 _ _ _ _ | omega) only [m56, ↓k_dp, ↓k_dn, k_dp, k_dn, k_dT, k_dF, k_ip, k_in, if_true, if_false, ne_eq, not_true_eq_false, not_false_eq_true, Int.reduceAdd, zup_a, zup_e, zup_j, z32_id, k_il1, k_ic, k_isub, k_is2, k_il2, k_iflt, k_al0, k_gR, k_ild, k_ildS, k_ildW, k_iadd, k_icle, k_inc2, k_goto, k_ifge, k_rz, k_is3, k_il3, k_icge, k_inc3, k_v3, k_is4, k_is5, k_il4, k_il5, k_inc4, k_inc5, zb0_some, zb1_some, e56_0, e56_1, e56_2, e56_3, e56_4, e56_5, e56_8, e56_9, e56_12, e56_13, e56_14, e56_15, e56_18, e56_19, e56_20, e56_21, e56_22, e56_25, e56_28, e56_31, e56_32, e56_35, e56_36, e56_37, e56_38, e56_39, e56_40, e56_42, e56_43, e56_46, e56_47, e56_50, e56_51, e56_52, e56_53, e56_56, e56_57, e56_58, e56_61, e56_64, e56_68, e56_69, e56_70, e56_73, e56_74, e56_75, e56_76, e56_78, e56_79, e56_80, e56_81, e56_83, e56_85, e56_87, e56_90, e56_91, e56_93, e56_95, e56_98, e56_101, e56_104, e56_107, e56_108]
    rfl
  | f + 1, j, j1, j2, hf => by
    unfold nxJ
    by_cases c : j ≤ i
    · rw [if_pos c, e56_41]
      simp (disch := first | assumption | exact zrm0 | exact zrm1 _ | exact zrm2 _ _ | exact zrm3 _ _ _ | exact zrm4 _ _ _ _ | omega) only [m56, ↓k_dp, ↓k_dn, k_dp, k_dn, k_dT, k_dF, k_ip, k_in, if_true, if_false, ne_eq, not_true_eq_false, not_false_eq_true, Int.reduceAdd, zup_a, zup_e, zup_j, z32_id, k_il1, k_ic, k_isub, k_is2, k_il2, k_iflt, k_al0, k_gR, k_ild, k_ildS, k_ildW, k_iadd, k_icle, k_inc2, k_goto, k_ifge, k_rz, k_is3, k_il3, k_icge, k_inc3, k_v3, k_is4, k_is5, k_il4, k_il5, k_inc4, k_inc5, zb0_some, zb1_some, e56_0, e56_1, e56_2, e56_3, e56_4, e56_5, e56_8, e56_9, e56_12, e56_13, e56_14, e56_15, e56_18, e56_19, e56_20, e56_21, e56_22, e56_25, e56_28, e56_31, e56_32, e56_35, e56_36, e56_37, e56_38, e56_39, e56_40, e56_42, e56_43, e56_46, e56_47, e56_50, e56_51, e56_52, e56_53, e56_56, e56_57, e56_58, e56_61, e56_64, e56_68, e56_69, e56_70, e56_73, e56_74, e56_75, e56_76, e56_78, e56_79, e56_80, e56_81, e56_83, e56_85, e56_87, e56_90, e56_91, e56_93, e56_95, e56_98, e56_101, e56_104, e56_107, e56_108]
    · rw [if_neg c]
      by_cases c2 : M 80 j < M 80 i
      · rw [if_pos c2, ← c_nxJ d x0 n y i M i0 i4 f (j - 1) (by omega) (by omega) (by omega), e56_41]
        simp (disch := first | assumption | exact zrm0 | exact zrm1 _ | exact zrm2 _ _ | exact zrm3 _ _ _ | exact zrm4 _ _ _ _ | omega) only [m56, ↓k_dp, ↓k_dn, k_dp, k_dn, k_dT, k_dF, k_ip, k_in, if_true, if_false, ne_eq, not_true_eq_false, not_false_eq_true, Int.reduceAdd, zup_a, zup_e, zup_j, z32_id, k_il1, k_ic, k_isub, k_is2, k_il2, k_iflt, k_al0, k_gR, k_ild, k_ildS, k_ildW, k_iadd, k_icle, k_inc2, k_goto, k_ifge, k_rz, k_is3, k_il3, k_icge, k_inc3, k_v3, k_is4, k_is5, k_il4, k_il5, k_inc4, k_inc5, zb0_some, zb1_some, e56_0, e56_1, e56_2, e56_3, e56_4, e56_5, e56_8, e56_9, e56_12, e56_13, e56_14, e56_15, e56_18, e56_19, e56_20, e56_21, e56_22, e56_25, e56_28, e56_31, e56_32, e56_35, e56_36, e56_37, e56_38, e56_39, e56_40, e56_42, e56_43, e56_46, e56_47, e56_50, e56_51, e56_52, e56_53, e56_56, e56_57, e56_58, e56_61, e56_64, e56_68, e56_69, e56_70, e56_73, e56_74, e56_75, e56_76, e56_78, e56_79, e56_80, e56_81, e56_83, e56_85, e56_87, e56_90, e56_91, e56_93, e56_95, e56_98, e56_101, e56_104, e56_107, e56_108, Int.reduceNeg, ← Int.sub_eq_add_neg]
      · rw [if_neg c2, e56_41]
        simp (disch := first | assumption | exact zrm0 | exact zrm1 _ | exact zrm2 _ _ | exact zrm3 _ _ _ | exact zrm4 _ _ _ _ | omega) only [m56, ↓k_dp, ↓k_dn, k_dp, k_dn, k_dT, k_dF, k_ip, k_in, if_true, if_false, ne_eq, not_true_eq_false, not_false_eq_true, Int.reduceAdd, zup_a, zup_e, zup_j, z32_id, k_il1, k_ic, k_isub, k_is2, k_il2, k_iflt, k_al0, k_gR, k_ild, k_ildS, k_ildW, k_iadd, k_icle, k_inc2, k_goto, k_ifge, k_rz, k_is3, k_il3, k_icge, k_inc3, k_v3, k_is4, k_is5, k_il4, k_il5, k_inc4, k_inc5, zb0_some, zb1_some, e56_0, e56_1, e56_2, e56_3, e56_4, e56_5, e56_8, e56_9, e56_12, e56_13, e56_14, e56_15, e56_18, e56_19, e56_20, e56_21, e56_22, e56_25, e56_28, e56_31, e56_32, e56_35, e56_36, e56_37, e56_38, e56_39, e56_40, e56_42, e56_43, e56_46, e56_47, e56_50, e56_51, e56_52, e56_53, e56_56, e56_57, e56_58, e56_61, e56_64, e56_68, e56_69, e56_70, e56_73, e56_74, e56_75, e56_76, e56_78, e56_79, e56_80, e56_81, e56_83, e56_85, e56_87, e56_90, e56_91, e56_93, e56_95, e56_98, e56_101, e56_104, e56_107, e56_108]
theorem c_toNext (d : Nat) (x0 n y : Int) (M : zM) (n0 : 0 ≤ n) (n1 : n ≤ 5) : (nxtR (M 80) n = none → zEm true (d + 2) 56 [(29, 0, x0), (0, n, y)] M = some ((0, 0, 0), M)) ∧ ∀ R', nxtR (M 80) n = some R' → ∃ M', zEm true (d + 2) 56 [(29, 0, x0), (0, n, y)] M = some ((0, 1, 0), M') ∧ (∀ x y, x ≠ 80 → M' x y = M x y) ∧ M' 80 = R' := by
  have hI := c_nxI d x0 n y M 5 (n - 2) (by omega) (by omega) (by omega)
  have b1 := nxI_bd (R := M 80) 5 (n - 2)
  unfold nxtR
  generalize nxI (M 80) 5 (n - 2) = i at hI b1 ⊢
  refine ⟨fun h => ?_, fun R' h => ?_⟩
  · have c : i < 0 := by
      by_cases c : i < 0
      · exact c
      · rw [if_neg c] at h; cases h
    simp (disch := first | assumption | exact zrm0 | exact zrm1 _ | exact zrm2 _ _ | exact zrm3 _ _ _ | exact zrm4 _ _ _ _ | omega) only [m56, ↓k_dp, ↓k_dn, k_dp, k_dn, k_dT, k_dF, k_ip, k_in, if_true, if_false, ne_eq, not_true_eq_false, not_false_eq_true, Int.reduceAdd, zup_a, zup_e, zup_j, z32_id, k_il1, k_ic, k_isub, k_is2, k_il2, k_iflt, k_al0, k_gR, k_ild, k_ildS, k_ildW, k_iadd, k_icle, k_inc2, k_goto, k_ifge, k_rz, k_is3, k_il3, k_icge, k_inc3, k_v3, k_is4, k_is5, k_il4, k_il5, k_inc4, k_inc5, zb0_some, zb1_some, e56_0, e56_1, e56_2, e56_3, e56_5, e56_8, e56_9, e56_12, e56_13, e56_14, e56_15, e56_18, e56_19, e56_20, e56_21, e56_22, e56_25, e56_28, e56_31, e56_32, e56_35, e56_36, e56_37, e56_38, e56_39, e56_40, e56_41, e56_42, e56_43, e56_46, e56_47, e56_50, e56_51, e56_52, e56_53, e56_56, e56_57, e56_58, e56_61, e56_64, e56_67, e56_68, e56_69, e56_70, e56_73, e56_74, e56_75, e56_76, e56_78, e56_79, e56_80, e56_81, e56_83, e56_85, e56_87, e56_90, e56_91, e56_93, e56_95, e56_98, e56_101, e56_104, e56_107, e56_108]
    rw [hI]
    simp (disch := first | assumption | exact zrm0 | exact zrm1 _ | exact zrm2 _ _ | exact zrm3 _ _ _ | exact zrm4 _ _ _ _ | omega) only [m56, ↓k_dp, ↓k_dn, k_dp, k_dn, k_dT, k_dF, k_ip, k_in, if_true, if_false, ne_eq, not_true_eq_false, not_false_eq_true, Int.reduceAdd, zup_a, zup_e, zup_j, z32_id, k_il1, k_ic, k_isub, k_is2, k_il2, k_iflt, k_al0, k_gR, k_ild, k_ildS, k_ildW, k_iadd, k_icle, k_inc2, k_goto, k_ifge, k_rz, k_is3, k_il3, k_icge, k_inc3, k_v3, k_is4, k_is5, k_il4, k_il5, k_inc4, k_inc5, zb0_some, zb1_some, e56_0, e56_1, e56_2, e56_3, e56_5, e56_8, e56_9, e56_12, e56_13, e56_14, e56_15, e56_18, e56_19, e56_20, e56_21, e56_22, e56_25, e56_28, e56_31, e56_32, e56_35, e56_36, e56_37, e56_38, e56_39, e56_40, e56_41, e56_42, e56_43, e56_46, e56_47, e56_50, e56_51, e56_52, e56_53, e56_56, e56_57, e56_58, e56_61, e56_64, e56_67, e56_68, e56_69, e56_70, e56_73, e56_74, e56_75, e56_76, e56_78, e56_79, e56_80, e56_81, e56_83, e56_85, e56_87, e56_90, e56_91, e56_93, e56_95, e56_98, e56_101, e56_104, e56_107, e56_108]
  · have c : ¬ i < 0 := by
      intro c
      rw [if_pos c] at h; cases h
    rw [if_neg c] at h
    have h := Option.some.inj h
    have hJ := c_nxJ d x0 n y i M (by omega) (by omega) 5 (n - 1) (by omega) (by omega) (by omega)
    have b2 := nxJ_bd (R := M 80) (i := i) 5 (n - 1)
    generalize nxJ (M 80) i 5 (n - 1) = j at hJ b2 h
    obtain ⟨M', a1, a2, a3⟩ := c_rev d x0 n y i j 3 (i + 1) (n - 1) (zup (zup M 80 i (M 80 j)) 80 j (M 80 i)) (by omega) (by omega) (by omega)
    refine ⟨M', ?_, fun x y h => by rw [a2 x y h, zup_a h, zup_a h], by rw [a3, swp_row]; exact h⟩
    simp (disch := first | assumption | exact zrm0 | exact zrm1 _ | exact zrm2 _ _ | exact zrm3 _ _ _ | exact zrm4 _ _ _ _ | omega) only [m56, ↓k_dp, ↓k_dn, k_dp, k_dn, k_dT, k_dF, k_ip, k_in, if_true, if_false, ne_eq, not_true_eq_false, not_false_eq_true, Int.reduceAdd, zup_a, zup_e, zup_j, z32_id, k_il1, k_ic, k_isub, k_is2, k_il2, k_iflt, k_al0, k_gR, k_ild, k_ildS, k_ildW, k_iadd, k_icle, k_inc2, k_goto, k_ifge, k_rz, k_is3, k_il3, k_icge, k_inc3, k_v3, k_is4, k_is5, k_il4, k_il5, k_inc4, k_inc5, zb0_some, zb1_some, e56_0, e56_1, e56_2, e56_3, e56_5, e56_8, e56_9, e56_12, e56_13, e56_14, e56_15, e56_18, e56_19, e56_20, e56_21, e56_22, e56_25, e56_28, e56_31, e56_32, e56_35, e56_36, e56_37, e56_38, e56_39, e56_40, e56_42, e56_43, e56_46, e56_47, e56_50, e56_51, e56_52, e56_53, e56_56, e56_57, e56_58, e56_61, e56_64, e56_67, e56_68, e56_69, e56_70, e56_73, e56_74, e56_75, e56_76, e56_78, e56_79, e56_80, e56_81, e56_85, e56_87, e56_90, e56_91, e56_93, e56_95, e56_98, e56_101, e56_104, e56_107, e56_108]
    rw [hI]
    simp (disch := first | assumption | exact zrm0 | exact zrm1 _ | exact zrm2 _ _ | exact zrm3 _ _ _ | exact zrm4 _ _ _ _ | omega) only [m56, ↓k_dp, ↓k_dn, k_dp, k_dn, k_dT, k_dF, k_ip, k_in, if_true, if_false, ne_eq, not_true_eq_false, not_false_eq_true, Int.reduceAdd, zup_a, zup_e, zup_j, z32_id, k_il1, k_ic, k_isub, k_is2, k_il2, k_iflt, k_al0, k_gR, k_ild, k_ildS, k_ildW, k_iadd, k_icle, k_inc2, k_goto, k_ifge, k_rz, k_is3, k_il3, k_icge, k_inc3, k_v3, k_is4, k_is5, k_il4, k_il5, k_inc4, k_inc5, zb0_some, zb1_some, e56_0, e56_1, e56_2, e56_3, e56_5, e56_8, e56_9, e56_12, e56_13, e56_14, e56_15, e56_18, e56_19, e56_20, e56_21, e56_22, e56_25, e56_28, e56_31, e56_32, e56_35, e56_36, e56_37, e56_38, e56_39, e56_40, e56_42, e56_43, e56_46, e56_47, e56_50, e56_51, e56_52, e56_53, e56_56, e56_57, e56_58, e56_61, e56_64, e56_67, e56_68, e56_69, e56_70, e56_73, e56_74, e56_75, e56_76, e56_78, e56_79, e56_80, e56_81, e56_85, e56_87, e56_90, e56_91, e56_93, e56_95, e56_98, e56_101, e56_104, e56_107, e56_108]
    rw [hJ]
    simp (disch := first | assumption | exact zrm0 | exact zrm1 _ | exact zrm2 _ _ | exact zrm3 _ _ _ | exact zrm4 _ _ _ _ | omega) only [m56, ↓k_dp, ↓k_dn, k_dp, k_dn, k_dT, k_dF, k_ip, k_in, if_true, if_false, ne_eq, not_true_eq_false, not_false_eq_true, Int.reduceAdd, zup_a, zup_e, zup_j, z32_id, k_il1, k_ic, k_isub, k_is2, k_il2, k_iflt, k_al0, k_gR, k_ild, k_ildS, k_ildW, k_iadd, k_icle, k_inc2, k_goto, k_ifge, k_rz, k_is3, k_il3, k_icge, k_inc3, k_v3, k_is4, k_is5, k_il4, k_il5, k_inc4, k_inc5, zb0_some, zb1_some, e56_0, e56_1, e56_2, e56_3, e56_5, e56_8, e56_9, e56_12, e56_13, e56_14, e56_15, e56_18, e56_19, e56_20, e56_21, e56_22, e56_25, e56_28, e56_31, e56_32, e56_35, e56_36, e56_37, e56_38, e56_39, e56_40, e56_42, e56_43, e56_46, e56_47, e56_50, e56_51, e56_52, e56_53, e56_56, e56_57, e56_58, e56_61, e56_64, e56_67, e56_68, e56_69, e56_70, e56_73, e56_74, e56_75, e56_76, e56_78, e56_79, e56_80, e56_81, e56_85, e56_87, e56_90, e56_91, e56_93, e56_95, e56_98, e56_101, e56_104, e56_107, e56_108, c_swap]
    exact a1
theorem lM_snoc {R R' : Int → Int} {l : List Int} {q k : Int} (h : zIs R l) (hk : k = l.length) (h1 : ∀ i, 0 ≤ i → i < k → R' i = R i) (h2 : R' k = q) : zIs R' (l ++ [q]) := by
  intro i i0 i1
  rw [List.length_append] at i1
  simp only [List.length_cons, List.length_nil] at i1
  by_cases c : i < (l.length : Int)
  · rw [h1 i i0 (by omega), h i i0 c, List.getD_eq_getElem?_getD, List.getD_eq_getElem?_getD, List.getElem?_append_left (by omega)]
  · have e : i = k := by omega
    rw [e, h2, hk, Int.toNat_natCast, List.getD_eq_getElem?_getD, List.getElem?_append_right (Nat.le_refl _), Nat.sub_self]
    rfl
theorem c_list0 (d : Nat) (x0 : Int) (M : zM) (g1 : M 30 8 ≤ 5) : ∀ (j : Nat) (q mv k : Int) (N : zM), q + j = M 30 8 → 0 ≤ q → 0 ≤ mv → mv < 2 ^ q.toNat → k = pM mv → k = (lM mv).length → zIs (N 80) (lM mv) → (∀ x y, x ≠ 80 → N x y = M x y) → ∃ N' m, m = zit (fun q v => if zvS M 37 5 q = 0 then zor v (zshl 1 q) else v) j q mv ∧ (0 ≤ m ∧ m < 32) ∧ zEv true d 54 4 [(29, 0, x0), (0, k, 0), (0, q, 0)] [] N = some ((0, pM m, 0), N') ∧ (∀ x y, x ≠ 80 → N' x y = M x y) ∧ zIs (N' 80) (lM m)
  | 0, q, mv, k, N, hq, q0, v0, v1, hk, hk2, hi, hN => by
    have n30 : N 30 8 = M 30 8 := hN _ _ (by omega)
    refine ⟨N, mv, rfl, ⟨v0, ?_⟩, ?_, hN, hi⟩
    · rcases (show q = 0 ∨ q = 1 ∨ q = 2 ∨ q = 3 ∨ q = 4 ∨ q = 5 by omega) with rfl | rfl | rfl | rfl | rfl | rfl <;> simp at v1 <;> omega
    · rw [e54_4, ← hk]
      simp (disch := first | assumption | exact zrm0 | exact zrm1 _ | exact zrm2 _ _ | exact zrm3 _ _ _ | exact zrm4 _ _ _ _ | omega) only [m54, ↓k_dp, ↓k_dn, k_dp, k_dn, k_dT, k_dF, k_ip, k_in, if_true, if_false, ne_eq, not_true_eq_false, not_false_eq_true, Int.reduceAdd, zup_a, zup_e, zup_j, z32_id, k_ic, k_is1, k_is2, k_il2, k_al0, k_gR, k_gI, k_icge, k_ild, k_ildS, k_ildW, k_ifne, k_il1, k_ist, k_inc1, k_inc2, k_goto, k_ri, e54_0, e54_1, e54_2, e54_3, e54_5, e54_6, e54_9, e54_12, e54_15, e54_16, e54_19, e54_22, e54_23, e54_24, e54_27, e54_28, e54_31, e54_32, e54_33, e54_34, e54_37, e54_40, e54_43, e54_44, n30]
  | j + 1, q, mv, k, N, hq, q0, v0, v1, hk, hk2, hi, hN => by
    have n30 : N 30 8 = M 30 8 := hN _ _ (by omega)
    have n42 : N 42 q = M 42 q := hN _ _ (by omega)
    have hv : zvS M 37 5 q = M 42 q := zvS_5 q0 (by omega)
    obtain ⟨⟨t1, t2⟩, t3, t4, t5, t6⟩ := addM_t (q := q) v0 v1 q0 (by omega)
    have e1 : (q + 1).toNat = q.toNat + 1 := by omega
    by_cases c : M 42 q = 0
    · obtain ⟨N', m, a1, a2, a3, a4, a5⟩ := c_list0 d x0 M g1 j (q + 1) (zor mv (zshl 1 q)) (k + 1) (zup N 80 k q) (by omega) (by omega) t1 (by rw [e1]; exact t2) (by omega) (by rw [t3, List.length_append]; simp; omega) (by rw [t3]; exact lM_snoc hi hk2 (fun i i0 i1 => zup_j (by omega)) (zup_e (by omega))) (fun x y h => by rw [zup_a h]; exact hN x y h)
      refine ⟨N', m, ?_, a2, ?_, a4, a5⟩
      · rw [zit, hv, if_pos c]; exact a1
      · rw [e54_4]
        simp (disch := first | assumption | exact zrm0 | exact zrm1 _ | exact zrm2 _ _ | exact zrm3 _ _ _ | exact zrm4 _ _ _ _ | omega) only [m54, ↓k_dp, ↓k_dn, k_dp, k_dn, k_dT, k_dF, k_ip, k_in, if_true, if_false, ne_eq, not_true_eq_false, not_false_eq_true, Int.reduceAdd, zup_a, zup_e, zup_j, z32_id, k_ic, k_is1, k_is2, k_il2, k_al0, k_gR, k_gI, k_icge, k_ild, k_ildS, k_ildW, k_ifne, k_il1, k_ist, k_inc1, k_inc2, k_goto, k_ri, e54_0, e54_1, e54_2, e54_3, e54_5, e54_6, e54_9, e54_12, e54_15, e54_16, e54_19, e54_22, e54_23, e54_24, e54_27, e54_28, e54_31, e54_32, e54_33, e54_34, e54_37, e54_40, e54_43, e54_44, n30, n42, c]
        exact a3
    · obtain ⟨N', m, a1, a2, a3, a4, a5⟩ := c_list0 d x0 M g1 j (q + 1) mv k N (by omega) (by omega) v0 (by rw [e1, Int.pow_succ]; omega) hk hk2 hi hN
      refine ⟨N', m, ?_, a2, ?_, a4, a5⟩
      · rw [zit, hv, if_neg c]; exact a1
      · rw [e54_4]
        simp (disch := first | assumption | exact zrm0 | exact zrm1 _ | exact zrm2 _ _ | exact zrm3 _ _ _ | exact zrm4 _ _ _ _ | omega) only [m54, ↓k_dp, ↓k_dn, k_dp, k_dn, k_dT, k_dF, k_ip, k_in, if_true, if_false, ne_eq, not_true_eq_false, not_false_eq_true, Int.reduceAdd, zup_a, zup_e, zup_j, z32_id, k_ic, k_is1, k_is2, k_il2, k_al0, k_gR, k_gI, k_icge, k_ild, k_ildS, k_ildW, k_ifne, k_il1, k_ist, k_inc1, k_inc2, k_goto, k_ri, e54_0, e54_1, e54_2, e54_3, e54_5, e54_6, e54_9, e54_12, e54_15, e54_16, e54_19, e54_22, e54_23, e54_24, e54_27, e54_28, e54_31, e54_32, e54_33, e54_34, e54_37, e54_40, e54_43, e54_44, n30, n42, c]
        exact a3
theorem c_list (d : Nat) (x0 : Int) (M : zM) (g0 : 0 ≤ M 30 8) (g1 : M 30 8 ≤ 5) : ∃ N' m, m = sThose (zvS M 37) (zvG M 30) 0 ∧ (0 ≤ m ∧ m < 32) ∧ zEm true (d + 1) 54 [(29, 0, x0)] M = some ((0, pM m, 0), N') ∧ (∀ x y, x ≠ 80 → N' x y = M x y) ∧ zIs (N' 80) (lM m) := by
  have hl : lM 0 = [] := by decide
  obtain ⟨N', m, a1, a2, a3, a4, a5⟩ := c_list0 d x0 M g1 (M 30 8).toNat 0 0 0 M (by omega) (Int.le_refl _) (Int.le_refl _) (by decide) (by decide) (by decide) (by rw [hl]; intro i i0 i1; simp at i1; omega) (fun _ _ _ => rfl)
  refine ⟨N', m, ?_, a2, ?_, a4, a5⟩
  · unfold sThose
    rw [zvG_0 (by omega) (by omega)]
    exact a1
  · simp (disch := first | assumption | exact zrm0 | exact zrm1 _ | exact zrm2 _ _ | exact zrm3 _ _ _ | exact zrm4 _ _ _ _ | omega) only [m54, ↓k_dp, ↓k_dn, k_dp, k_dn, k_dT, k_dF, k_ip, k_in, if_true, if_false, ne_eq, not_true_eq_false, not_false_eq_true, Int.reduceAdd, zup_a, zup_e, zup_j, z32_id, k_ic, k_is1, k_is2, k_il2, k_al0, k_gR, k_gI, k_icge, k_ild, k_ildS, k_ildW, k_ifne, k_il1, k_ist, k_inc1, k_inc2, k_goto, k_ri, e54_0, e54_1, e54_2, e54_3, e54_5, e54_6, e54_9, e54_12, e54_15, e54_16, e54_19, e54_22, e54_23, e54_24, e54_27, e54_28, e54_31, e54_32, e54_33, e54_34, e54_37, e54_40, e54_43, e54_44]
    exact a3
