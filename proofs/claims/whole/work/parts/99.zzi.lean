/-! a book's lines -/
theorem m98 (ph : Bool) (d : Nat) (a x0 p0 y0 : Int) (M : zM) : zEm ph (d + 1) 98 [(24, a, x0), (28, p0, y0)] M = zEv ph d 98 0 [(24, a, x0), (28, p0, y0), (3, 0, 0)] [] M := rfl
theorem e98_0 (ph : Bool) (d : Nat) (L st : List zV) (M : zM) : zEv ph d 98 0 L st M = zcont ph d 98 (zstep ph (zEm ph d) 4 1 0 [0] L st M) := zEv_step rfl
theorem e98_1 (ph : Bool) (d : Nat) (L st : List zV) (M : zM) : zEv ph d 98 1 L st M = zcont ph d 98 (zstep ph (zEm ph d) 62 4 0 [24, 4, 24, 20, 0] L st M) := zEv_step rfl
theorem e98_4 (ph : Bool) (d : Nat) (L st : List zV) (M : zM) : zEv ph d 98 4 L st M = zcont ph d 98 (zstep ph (zEm ph d) 0 5 0 [0] L st M) := zEv_step rfl
theorem e98_5 (ph : Bool) (d : Nat) (L st : List zV) (M : zM) : zEv ph d 98 5 L st M = zcont ph d 98 (zstep ph (zEm ph d) 65 8 0 [20, 4] L st M) := zEv_step rfl
theorem e98_8 (ph : Bool) (d : Nat) (L st : List zV) (M : zM) : zEv ph d 98 8 L st M = zcont ph d 98 (zstep ph (zEm ph d) 4 9 0 [0] L st M) := zEv_step rfl
theorem e98_9 (ph : Bool) (d : Nat) (L st : List zV) (M : zM) : zEv ph d 98 9 L st M = zcont ph d 98 (zstep ph (zEm ph d) 62 12 0 [24, 0, 1, 27, 0] L st M) := zEv_step rfl
theorem e98_12 (ph : Bool) (d : Nat) (L st : List zV) (M : zM) : zEv ph d 98 12 L st M = zcont ph d 98 (zstep ph (zEm ph d) 0 15 0 [400] L st M) := zEv_step rfl
theorem e98_15 (ph : Bool) (d : Nat) (L st : List zV) (M : zM) : zEv ph d 98 15 L st M = zcont ph d 98 (zstep ph (zEm ph d) 70 18 137 [2, 0, 27] L st M) := zEv_step rfl
theorem e98_18 (ph : Bool) (d : Nat) (L st : List zV) (M : zM) : zEv ph d 98 18 L st M = zcont ph d 98 (zstep ph (zEm ph d) 0 19 0 [0] L st M) := zEv_step rfl
theorem e98_19 (ph : Bool) (d : Nat) (L st : List zV) (M : zM) : zEv ph d 98 19 L st M = zcont ph d 98 (zstep ph (zEm ph d) 5 20 0 [2] L st M) := zEv_step rfl
theorem e98_20 (ph : Bool) (d : Nat) (L st : List zV) (M : zM) : zEv ph d 98 20 L st M = zcont ph d 98 (zstep ph (zEm ph d) 2 21 0 [2] L st M) := zEv_step rfl
theorem e98_21 (ph : Bool) (d : Nat) (L st : List zV) (M : zM) : zEv ph d 98 21 L st M = zcont ph d 98 (zstep ph (zEm ph d) 0 23 0 [40] L st M) := zEv_step rfl
theorem e98_23 (ph : Bool) (d : Nat) (L st : List zV) (M : zM) : zEv ph d 98 23 L st M = zcont ph d 98 (zstep ph (zEm ph d) 50 26 64 [] L st M) := zEv_step rfl
theorem e98_26 (ph : Bool) (d : Nat) (L st : List zV) (M : zM) : zEv ph d 98 26 L st M = zcont ph d 98 (zstep ph (zEm ph d) 4 27 0 [0] L st M) := zEv_step rfl
theorem e98_27 (ph : Bool) (d : Nat) (L st : List zV) (M : zM) : zEv ph d 98 27 L st M = zcont ph d 98 (zstep ph (zEm ph d) 62 30 0 [24, 0, 1, 27, 0] L st M) := zEv_step rfl
theorem e98_30 (ph : Bool) (d : Nat) (L st : List zV) (M : zM) : zEv ph d 98 30 L st M = zcont ph d 98 (zstep ph (zEm ph d) 70 33 138 [1, 1, 27] L st M) := zEv_step rfl
theorem e98_33 (ph : Bool) (d : Nat) (L st : List zV) (M : zM) : zEv ph d 98 33 L st M = zcont ph d 98 (zstep ph (zEm ph d) 41 36 64 [] L st M) := zEv_step rfl
theorem e98_36 (ph : Bool) (d : Nat) (L st : List zV) (M : zM) : zEv ph d 98 36 L st M = zcont ph d 98 (zstep ph (zEm ph d) 4 37 0 [0] L st M) := zEv_step rfl
theorem e98_37 (ph : Bool) (d : Nat) (L st : List zV) (M : zM) : zEv ph d 98 37 L st M = zcont ph d 98 (zstep ph (zEm ph d) 4 38 0 [1] L st M) := zEv_step rfl
theorem e98_38 (ph : Bool) (d : Nat) (L st : List zV) (M : zM) : zEv ph d 98 38 L st M = zcont ph d 98 (zstep ph (zEm ph d) 70 41 99 [2, 1, 24] L st M) := zEv_step rfl
theorem e98_41 (ph : Bool) (d : Nat) (L st : List zV) (M : zM) : zEv ph d 98 41 L st M = zcont ph d 98 (zstep ph (zEm ph d) 40 44 56 [] L st M) := zEv_step rfl
theorem e98_44 (ph : Bool) (d : Nat) (L st : List zV) (M : zM) : zEv ph d 98 44 L st M = zcont ph d 98 (zstep ph (zEm ph d) 4 45 0 [0] L st M) := zEv_step rfl
theorem e98_45 (ph : Bool) (d : Nat) (L st : List zV) (M : zM) : zEv ph d 98 45 L st M = zcont ph d 98 (zstep ph (zEm ph d) 62 48 0 [24, 0, 1, 27, 0] L st M) := zEv_step rfl
theorem e98_48 (ph : Bool) (d : Nat) (L st : List zV) (M : zM) : zEv ph d 98 48 L st M = zcont ph d 98 (zstep ph (zEm ph d) 0 50 0 [59] L st M) := zEv_step rfl
theorem e98_50 (ph : Bool) (d : Nat) (L st : List zV) (M : zM) : zEv ph d 98 50 L st M = zcont ph d 98 (zstep ph (zEm ph d) 70 53 145 [2, 1, 27] L st M) := zEv_step rfl
theorem e98_53 (ph : Bool) (d : Nat) (L st : List zV) (M : zM) : zEv ph d 98 53 L st M = zcont ph d 98 (zstep ph (zEm ph d) 41 56 58 [] L st M) := zEv_step rfl
theorem e98_56 (ph : Bool) (d : Nat) (L st : List zV) (M : zM) : zEv ph d 98 56 L st M = zcont ph d 98 (zstep ph (zEm ph d) 0 57 0 [0] L st M) := zEv_step rfl
theorem e98_57 (ph : Bool) (d : Nat) (L st : List zV) (M : zM) : zEv ph d 98 57 L st M = zcont ph d 98 (zstep ph (zEm ph d) 80 58 0 [0, 1] L st M) := zEv_step rfl
theorem e98_58 (ph : Bool) (d : Nat) (L st : List zV) (M : zM) : zEv ph d 98 58 L st M = zcont ph d 98 (zstep ph (zEm ph d) 8 61 0 [2, 1] L st M) := zEv_step rfl
theorem e98_61 (ph : Bool) (d : Nat) (L st : List zV) (M : zM) : zEv ph d 98 61 L st M = zcont ph d 98 (zstep ph (zEm ph d) 52 64 20 [] L st M) := zEv_step rfl
theorem e98_64 (ph : Bool) (d : Nat) (L st : List zV) (M : zM) : zEv ph d 98 64 L st M = zcont ph d 98 (zstep ph (zEm ph d) 4 65 0 [0] L st M) := zEv_step rfl
theorem e98_65 (ph : Bool) (d : Nat) (L st : List zV) (M : zM) : zEv ph d 98 65 L st M = zcont ph d 98 (zstep ph (zEm ph d) 62 68 0 [24, 0, 1, 27, 0] L st M) := zEv_step rfl
theorem e98_68 (ph : Bool) (d : Nat) (L st : List zV) (M : zM) : zEv ph d 98 68 L st M = zcont ph d 98 (zstep ph (zEm ph d) 70 71 139 [1, 1, 27] L st M) := zEv_step rfl
theorem e98_71 (ph : Bool) (d : Nat) (L st : List zV) (M : zM) : zEv ph d 98 71 L st M = zcont ph d 98 (zstep ph (zEm ph d) 80 72 0 [0, 1] L st M) := zEv_step rfl
theorem m99 (ph : Bool) (d : Nat) (a x0 p0 y0 : Int) (M : zM) : zEm ph (d + 1) 99 [(24, a, x0), (28, p0, y0)] M = zEv ph d 99 0 [(24, a, x0), (28, p0, y0), (3, 0, 0), (3, 0, 0)] [] M := rfl
theorem e99_0 (ph : Bool) (d : Nat) (L st : List zV) (M : zM) : zEv ph d 99 0 L st M = zcont ph d 99 (zstep ph (zEm ph d) 0 1 0 [-1] L st M) := zEv_step rfl
theorem e99_1 (ph : Bool) (d : Nat) (L st : List zV) (M : zM) : zEv ph d 99 1 L st M = zcont ph d 99 (zstep ph (zEm ph d) 5 2 0 [2] L st M) := zEv_step rfl
theorem e99_2 (ph : Bool) (d : Nat) (L st : List zV) (M : zM) : zEv ph d 99 2 L st M = zcont ph d 99 (zstep ph (zEm ph d) 4 3 0 [0] L st M) := zEv_step rfl
theorem e99_3 (ph : Bool) (d : Nat) (L st : List zV) (M : zM) : zEv ph d 99 3 L st M = zcont ph d 99 (zstep ph (zEm ph d) 70 6 100 [1, 1, 24] L st M) := zEv_step rfl
theorem e99_6 (ph : Bool) (d : Nat) (L st : List zV) (M : zM) : zEv ph d 99 6 L st M = zcont ph d 99 (zstep ph (zEm ph d) 41 9 32 [] L st M) := zEv_step rfl
theorem e99_9 (ph : Bool) (d : Nat) (L st : List zV) (M : zM) : zEv ph d 99 9 L st M = zcont ph d 99 (zstep ph (zEm ph d) 4 10 0 [0] L st M) := zEv_step rfl
theorem e99_10 (ph : Bool) (d : Nat) (L st : List zV) (M : zM) : zEv ph d 99 10 L st M = zcont ph d 99 (zstep ph (zEm ph d) 62 13 0 [24, 0, 1, 27, 0] L st M) := zEv_step rfl
theorem e99_13 (ph : Bool) (d : Nat) (L st : List zV) (M : zM) : zEv ph d 99 13 L st M = zcont ph d 99 (zstep ph (zEm ph d) 4 14 0 [1] L st M) := zEv_step rfl
theorem e99_14 (ph : Bool) (d : Nat) (L st : List zV) (M : zM) : zEv ph d 99 14 L st M = zcont ph d 99 (zstep ph (zEm ph d) 62 17 0 [28, 1, 2, 11, 10] L st M) := zEv_step rfl
theorem e99_17 (ph : Bool) (d : Nat) (L st : List zV) (M : zM) : zEv ph d 99 17 L st M = zcont ph d 99 (zstep ph (zEm ph d) 4 18 0 [1] L st M) := zEv_step rfl
theorem e99_18 (ph : Bool) (d : Nat) (L st : List zV) (M : zM) : zEv ph d 99 18 L st M = zcont ph d 99 (zstep ph (zEm ph d) 60 21 0 [28, 7] L st M) := zEv_step rfl
theorem e99_21 (ph : Bool) (d : Nat) (L st : List zV) (M : zM) : zEv ph d 99 21 L st M = zcont ph d 99 (zstep ph (zEm ph d) 70 24 149 [3, 1, 27] L st M) := zEv_step rfl
theorem e99_24 (ph : Bool) (d : Nat) (L st : List zV) (M : zM) : zEv ph d 99 24 L st M = zcont ph d 99 (zstep ph (zEm ph d) 5 25 0 [2] L st M) := zEv_step rfl
theorem e99_25 (ph : Bool) (d : Nat) (L st : List zV) (M : zM) : zEv ph d 99 25 L st M = zcont ph d 99 (zstep ph (zEm ph d) 2 26 0 [2] L st M) := zEv_step rfl
theorem e99_26 (ph : Bool) (d : Nat) (L st : List zV) (M : zM) : zEv ph d 99 26 L st M = zcont ph d 99 (zstep ph (zEm ph d) 0 27 0 [-1] L st M) := zEv_step rfl
theorem e99_27 (ph : Bool) (d : Nat) (L st : List zV) (M : zM) : zEv ph d 99 27 L st M = zcont ph d 99 (zstep ph (zEm ph d) 47 30 32 [] L st M) := zEv_step rfl
theorem e99_30 (ph : Bool) (d : Nat) (L st : List zV) (M : zM) : zEv ph d 99 30 L st M = zcont ph d 99 (zstep ph (zEm ph d) 0 31 0 [0] L st M) := zEv_step rfl
theorem e99_31 (ph : Bool) (d : Nat) (L st : List zV) (M : zM) : zEv ph d 99 31 L st M = zcont ph d 99 (zstep ph (zEm ph d) 80 32 0 [0, 1] L st M) := zEv_step rfl
theorem e99_32 (ph : Bool) (d : Nat) (L st : List zV) (M : zM) : zEv ph d 99 32 L st M = zcont ph d 99 (zstep ph (zEm ph d) 4 33 0 [0] L st M) := zEv_step rfl
theorem e99_33 (ph : Bool) (d : Nat) (L st : List zV) (M : zM) : zEv ph d 99 33 L st M = zcont ph d 99 (zstep ph (zEm ph d) 62 36 0 [24, 4, 24, 20, 0] L st M) := zEv_step rfl
theorem e99_36 (ph : Bool) (d : Nat) (L st : List zV) (M : zM) : zEv ph d 99 36 L st M = zcont ph d 99 (zstep ph (zEm ph d) 60 39 0 [20, 4] L st M) := zEv_step rfl
theorem e99_39 (ph : Bool) (d : Nat) (L st : List zV) (M : zM) : zEv ph d 99 39 L st M = zcont ph d 99 (zstep ph (zEm ph d) 0 41 0 [40] L st M) := zEv_step rfl
theorem e99_41 (ph : Bool) (d : Nat) (L st : List zV) (M : zM) : zEv ph d 99 41 L st M = zcont ph d 99 (zstep ph (zEm ph d) 48 44 53 [] L st M) := zEv_step rfl
theorem e99_44 (ph : Bool) (d : Nat) (L st : List zV) (M : zM) : zEv ph d 99 44 L st M = zcont ph d 99 (zstep ph (zEm ph d) 4 45 0 [0] L st M) := zEv_step rfl
theorem e99_45 (ph : Bool) (d : Nat) (L st : List zV) (M : zM) : zEv ph d 99 45 L st M = zcont ph d 99 (zstep ph (zEm ph d) 62 48 0 [24, 0, 1, 27, 0] L st M) := zEv_step rfl
theorem e99_48 (ph : Bool) (d : Nat) (L st : List zV) (M : zM) : zEv ph d 99 48 L st M = zcont ph d 99 (zstep ph (zEm ph d) 0 49 0 [4] L st M) := zEv_step rfl
theorem e99_49 (ph : Bool) (d : Nat) (L st : List zV) (M : zM) : zEv ph d 99 49 L st M = zcont ph d 99 (zstep ph (zEm ph d) 70 52 140 [2, 1, 27] L st M) := zEv_step rfl
theorem e99_52 (ph : Bool) (d : Nat) (L st : List zV) (M : zM) : zEv ph d 99 52 L st M = zcont ph d 99 (zstep ph (zEm ph d) 80 53 0 [0, 1] L st M) := zEv_step rfl
theorem e99_53 (ph : Bool) (d : Nat) (L st : List zV) (M : zM) : zEv ph d 99 53 L st M = zcont ph d 99 (zstep ph (zEm ph d) 4 54 0 [0] L st M) := zEv_step rfl
theorem e99_54 (ph : Bool) (d : Nat) (L st : List zV) (M : zM) : zEv ph d 99 54 L st M = zcont ph d 99 (zstep ph (zEm ph d) 62 57 0 [24, 0, 1, 27, 0] L st M) := zEv_step rfl
theorem e99_57 (ph : Bool) (d : Nat) (L st : List zV) (M : zM) : zEv ph d 99 57 L st M = zcont ph d 99 (zstep ph (zEm ph d) 63 60 0 [27, 7] L st M) := zEv_step rfl
theorem e99_60 (ph : Bool) (d : Nat) (L st : List zV) (M : zM) : zEv ph d 99 60 L st M = zcont ph d 99 (zstep ph (zEm ph d) 7 61 0 [3] L st M) := zEv_step rfl
theorem e99_61 (ph : Bool) (d : Nat) (L st : List zV) (M : zM) : zEv ph d 99 61 L st M = zcont ph d 99 (zstep ph (zEm ph d) 4 62 0 [0] L st M) := zEv_step rfl
theorem e99_62 (ph : Bool) (d : Nat) (L st : List zV) (M : zM) : zEv ph d 99 62 L st M = zcont ph d 99 (zstep ph (zEm ph d) 62 65 0 [24, 0, 1, 27, 0] L st M) := zEv_step rfl
theorem e99_65 (ph : Bool) (d : Nat) (L st : List zV) (M : zM) : zEv ph d 99 65 L st M = zcont ph d 99 (zstep ph (zEm ph d) 70 68 141 [1, 0, 27] L st M) := zEv_step rfl
theorem e99_68 (ph : Bool) (d : Nat) (L st : List zV) (M : zM) : zEv ph d 99 68 L st M = zcont ph d 99 (zstep ph (zEm ph d) 2 69 0 [2] L st M) := zEv_step rfl
theorem e99_69 (ph : Bool) (d : Nat) (L st : List zV) (M : zM) : zEv ph d 99 69 L st M = zcont ph d 99 (zstep ph (zEm ph d) 0 70 0 [-1] L st M) := zEv_step rfl
theorem e99_70 (ph : Bool) (d : Nat) (L st : List zV) (M : zM) : zEv ph d 99 70 L st M = zcont ph d 99 (zstep ph (zEm ph d) 47 73 82 [] L st M) := zEv_step rfl
theorem e99_73 (ph : Bool) (d : Nat) (L st : List zV) (M : zM) : zEv ph d 99 73 L st M = zcont ph d 99 (zstep ph (zEm ph d) 4 74 0 [0] L st M) := zEv_step rfl
theorem e99_74 (ph : Bool) (d : Nat) (L st : List zV) (M : zM) : zEv ph d 99 74 L st M = zcont ph d 99 (zstep ph (zEm ph d) 4 75 0 [1] L st M) := zEv_step rfl
theorem e99_75 (ph : Bool) (d : Nat) (L st : List zV) (M : zM) : zEv ph d 99 75 L st M = zcont ph d 99 (zstep ph (zEm ph d) 4 76 0 [3] L st M) := zEv_step rfl
theorem e99_76 (ph : Bool) (d : Nat) (L st : List zV) (M : zM) : zEv ph d 99 76 L st M = zcont ph d 99 (zstep ph (zEm ph d) 70 79 102 [3, 1, 24] L st M) := zEv_step rfl
theorem e99_79 (ph : Bool) (d : Nat) (L st : List zV) (M : zM) : zEv ph d 99 79 L st M = zcont ph d 99 (zstep ph (zEm ph d) 52 82 88 [] L st M) := zEv_step rfl
theorem e99_82 (ph : Bool) (d : Nat) (L st : List zV) (M : zM) : zEv ph d 99 82 L st M = zcont ph d 99 (zstep ph (zEm ph d) 4 83 0 [0] L st M) := zEv_step rfl
theorem e99_83 (ph : Bool) (d : Nat) (L st : List zV) (M : zM) : zEv ph d 99 83 L st M = zcont ph d 99 (zstep ph (zEm ph d) 4 84 0 [1] L st M) := zEv_step rfl
theorem e99_84 (ph : Bool) (d : Nat) (L st : List zV) (M : zM) : zEv ph d 99 84 L st M = zcont ph d 99 (zstep ph (zEm ph d) 2 85 0 [2] L st M) := zEv_step rfl
theorem e99_85 (ph : Bool) (d : Nat) (L st : List zV) (M : zM) : zEv ph d 99 85 L st M = zcont ph d 99 (zstep ph (zEm ph d) 70 88 101 [3, 1, 24] L st M) := zEv_step rfl
theorem e99_88 (ph : Bool) (d : Nat) (L st : List zV) (M : zM) : zEv ph d 99 88 L st M = zcont ph d 99 (zstep ph (zEm ph d) 80 89 0 [0, 1] L st M) := zEv_step rfl
theorem m100 (ph : Bool) (d : Nat) (a x0 : Int) (M : zM) : zEm ph (d + 1) 100 [(24, a, x0)] M = zEv ph d 100 0 [(24, a, x0)] [] M := rfl
theorem e100_0 (ph : Bool) (d : Nat) (L st : List zV) (M : zM) : zEv ph d 100 0 L st M = zcont ph d 100 (zstep ph (zEm ph d) 78 3 0 [0, 34] L st M) := zEv_step rfl
theorem e100_3 (ph : Bool) (d : Nat) (L st : List zV) (M : zM) : zEv ph d 100 3 L st M = zcont ph d 100 (zstep ph (zEm ph d) 4 4 0 [0] L st M) := zEv_step rfl
theorem e100_4 (ph : Bool) (d : Nat) (L st : List zV) (M : zM) : zEv ph d 100 4 L st M = zcont ph d 100 (zstep ph (zEm ph d) 62 7 0 [24, 0, 1, 27, 0] L st M) := zEv_step rfl
theorem e100_7 (ph : Bool) (d : Nat) (L st : List zV) (M : zM) : zEv ph d 100 7 L st M = zcont ph d 100 (zstep ph (zEm ph d) 63 10 0 [27, 7] L st M) := zEv_step rfl
theorem e100_10 (ph : Bool) (d : Nat) (L st : List zV) (M : zM) : zEv ph d 100 10 L st M = zcont ph d 100 (zstep ph (zEm ph d) 76 13 0 [] L st M) := zEv_step rfl
theorem e100_13 (ph : Bool) (d : Nat) (L st : List zV) (M : zM) : zEv ph d 100 13 L st M = zcont ph d 100 (zstep ph (zEm ph d) 85 14 0 [] L st M) := zEv_step rfl
theorem e100_14 (ph : Bool) (d : Nat) (a y : Int) (L st : List zV) (M : zM) : zEv ph d 100 14 L ((0, a, y) :: st) M = dite (a = 19) (fun _ => zEv ph d 100 52 L st M) (fun _ => dite (a = 20) (fun _ => zEv ph d 100 52 L st M) (fun _ => dite (a = 21) (fun _ => zEv ph d 100 52 L st M) (fun _ => dite (a = 22) (fun _ => zEv ph d 100 52 L st M) (fun _ => dite (a = 23) (fun _ => zEv ph d 100 52 L st M) (fun _ => dite (a = 24) (fun _ => zEv ph d 100 52 L st M) (fun _ => zEv ph d 100 54 L st M)))))) := (zEv_step (op := 56) (nx := 52) (tg := 54) (r := [19, 52, 52, 52, 52, 52, 52]) rfl).trans (zts6 (fun q => zEv ph d 100 q L st M))
theorem e100_52 (ph : Bool) (d : Nat) (L st : List zV) (M : zM) : zEv ph d 100 52 L st M = zcont ph d 100 (zstep ph (zEm ph d) 0 53 0 [1] L st M) := zEv_step rfl
theorem e100_53 (ph : Bool) (d : Nat) (L st : List zV) (M : zM) : zEv ph d 100 53 L st M = zcont ph d 100 (zstep ph (zEm ph d) 80 54 0 [0, 1] L st M) := zEv_step rfl
theorem e100_54 (ph : Bool) (d : Nat) (L st : List zV) (M : zM) : zEv ph d 100 54 L st M = zcont ph d 100 (zstep ph (zEm ph d) 0 55 0 [0] L st M) := zEv_step rfl
theorem e100_55 (ph : Bool) (d : Nat) (L st : List zV) (M : zM) : zEv ph d 100 55 L st M = zcont ph d 100 (zstep ph (zEm ph d) 80 56 0 [0, 1] L st M) := zEv_step rfl
theorem m101 (ph : Bool) (d : Nat) (a x0 p0 y0 p1 y1 : Int) (M : zM) : zEm ph (d + 1) 101 [(24, a, x0), (28, p0, y0), (0, p1, y1)] M = zEv ph d 101 0 [(24, a, x0), (28, p0, y0), (0, p1, y1), (3, 0, 0), (3, 0, 0), (3, 0, 0), (3, 0, 0)] [] M := rfl
theorem e101_0 (ph : Bool) (d : Nat) (L st : List zV) (M : zM) : zEv ph d 101 0 L st M = zcont ph d 101 (zstep ph (zEm ph d) 4 1 0 [0] L st M) := zEv_step rfl
theorem e101_1 (ph : Bool) (d : Nat) (L st : List zV) (M : zM) : zEv ph d 101 1 L st M = zcont ph d 101 (zstep ph (zEm ph d) 62 4 0 [24, 0, 1, 27, 0] L st M) := zEv_step rfl
theorem e101_4 (ph : Bool) (d : Nat) (L st : List zV) (M : zM) : zEv ph d 101 4 L st M = zcont ph d 101 (zstep ph (zEm ph d) 63 7 0 [27, 7] L st M) := zEv_step rfl
theorem e101_7 (ph : Bool) (d : Nat) (L st : List zV) (M : zM) : zEv ph d 101 7 L st M = zcont ph d 101 (zstep ph (zEm ph d) 7 8 0 [3] L st M) := zEv_step rfl
theorem e101_8 (ph : Bool) (d : Nat) (L st : List zV) (M : zM) : zEv ph d 101 8 L st M = zcont ph d 101 (zstep ph (zEm ph d) 4 9 0 [3] L st M) := zEv_step rfl
theorem e101_9 (ph : Bool) (d : Nat) (L st : List zV) (M : zM) : zEv ph d 101 9 L st M = zcont ph d 101 (zstep ph (zEm ph d) 77 12 0 [15] L st M) := zEv_step rfl
theorem e101_12 (ph : Bool) (d : Nat) (L st : List zV) (M : zM) : zEv ph d 101 12 L st M = zcont ph d 101 (zstep ph (zEm ph d) 53 15 45 [] L st M) := zEv_step rfl
theorem e101_15 (ph : Bool) (d : Nat) (L st : List zV) (M : zM) : zEv ph d 101 15 L st M = zcont ph d 101 (zstep ph (zEm ph d) 4 16 0 [3] L st M) := zEv_step rfl
theorem e101_16 (ph : Bool) (d : Nat) (L st : List zV) (M : zM) : zEv ph d 101 16 L st M = zcont ph d 101 (zstep ph (zEm ph d) 77 19 0 [16] L st M) := zEv_step rfl
theorem e101_19 (ph : Bool) (d : Nat) (L st : List zV) (M : zM) : zEv ph d 101 19 L st M = zcont ph d 101 (zstep ph (zEm ph d) 53 22 45 [] L st M) := zEv_step rfl
theorem e101_22 (ph : Bool) (d : Nat) (L st : List zV) (M : zM) : zEv ph d 101 22 L st M = zcont ph d 101 (zstep ph (zEm ph d) 4 23 0 [3] L st M) := zEv_step rfl
theorem e101_23 (ph : Bool) (d : Nat) (L st : List zV) (M : zM) : zEv ph d 101 23 L st M = zcont ph d 101 (zstep ph (zEm ph d) 77 26 0 [17] L st M) := zEv_step rfl
theorem e101_26 (ph : Bool) (d : Nat) (L st : List zV) (M : zM) : zEv ph d 101 26 L st M = zcont ph d 101 (zstep ph (zEm ph d) 53 29 45 [] L st M) := zEv_step rfl
theorem e101_29 (ph : Bool) (d : Nat) (L st : List zV) (M : zM) : zEv ph d 101 29 L st M = zcont ph d 101 (zstep ph (zEm ph d) 4 30 0 [3] L st M) := zEv_step rfl
theorem e101_30 (ph : Bool) (d : Nat) (L st : List zV) (M : zM) : zEv ph d 101 30 L st M = zcont ph d 101 (zstep ph (zEm ph d) 77 33 0 [18] L st M) := zEv_step rfl
theorem e101_33 (ph : Bool) (d : Nat) (L st : List zV) (M : zM) : zEv ph d 101 33 L st M = zcont ph d 101 (zstep ph (zEm ph d) 53 36 45 [] L st M) := zEv_step rfl
theorem e101_36 (ph : Bool) (d : Nat) (L st : List zV) (M : zM) : zEv ph d 101 36 L st M = zcont ph d 101 (zstep ph (zEm ph d) 4 37 0 [0] L st M) := zEv_step rfl
theorem e101_37 (ph : Bool) (d : Nat) (L st : List zV) (M : zM) : zEv ph d 101 37 L st M = zcont ph d 101 (zstep ph (zEm ph d) 62 40 0 [24, 0, 1, 27, 0] L st M) := zEv_step rfl
theorem e101_40 (ph : Bool) (d : Nat) (L st : List zV) (M : zM) : zEv ph d 101 40 L st M = zcont ph d 101 (zstep ph (zEm ph d) 0 41 0 [1] L st M) := zEv_step rfl
theorem e101_41 (ph : Bool) (d : Nat) (L st : List zV) (M : zM) : zEv ph d 101 41 L st M = zcont ph d 101 (zstep ph (zEm ph d) 70 44 140 [2, 1, 27] L st M) := zEv_step rfl
theorem e101_44 (ph : Bool) (d : Nat) (L st : List zV) (M : zM) : zEv ph d 101 44 L st M = zcont ph d 101 (zstep ph (zEm ph d) 80 45 0 [0, 1] L st M) := zEv_step rfl
theorem e101_45 (ph : Bool) (d : Nat) (L st : List zV) (M : zM) : zEv ph d 101 45 L st M = zcont ph d 101 (zstep ph (zEm ph d) 4 46 0 [0] L st M) := zEv_step rfl
theorem e101_46 (ph : Bool) (d : Nat) (L st : List zV) (M : zM) : zEv ph d 101 46 L st M = zcont ph d 101 (zstep ph (zEm ph d) 62 49 0 [24, 0, 1, 27, 0] L st M) := zEv_step rfl
theorem e101_49 (ph : Bool) (d : Nat) (L st : List zV) (M : zM) : zEv ph d 101 49 L st M = zcont ph d 101 (zstep ph (zEm ph d) 70 52 141 [1, 0, 27] L st M) := zEv_step rfl
theorem e101_52 (ph : Bool) (d : Nat) (L st : List zV) (M : zM) : zEv ph d 101 52 L st M = zcont ph d 101 (zstep ph (zEm ph d) 78 55 0 [0, 34] L st M) := zEv_step rfl
theorem e101_55 (ph : Bool) (d : Nat) (L st : List zV) (M : zM) : zEv ph d 101 55 L st M = zcont ph d 101 (zstep ph (zEm ph d) 4 56 0 [3] L st M) := zEv_step rfl
theorem e101_56 (ph : Bool) (d : Nat) (L st : List zV) (M : zM) : zEv ph d 101 56 L st M = zcont ph d 101 (zstep ph (zEm ph d) 76 59 0 [] L st M) := zEv_step rfl
theorem e101_59 (ph : Bool) (d : Nat) (L st : List zV) (M : zM) : zEv ph d 101 59 L st M = zcont ph d 101 (zstep ph (zEm ph d) 85 60 0 [] L st M) := zEv_step rfl
theorem e101_60 (ph : Bool) (d : Nat) (a y : Int) (L st : List zV) (M : zM) : zEv ph d 101 60 L ((0, a, y) :: st) M = dite (a = 25) (fun _ => zEv ph d 101 88 L st M) (fun _ => dite (a = 26) (fun _ => zEv ph d 101 127 L st M) (fun _ => dite (a = 27) (fun _ => zEv ph d 101 140 L st M) (fun _ => zEv ph d 101 153 L st M))) := (zEv_step (op := 56) (nx := 88) (tg := 153) (r := [25, 88, 127, 140]) rfl).trans (zts3 (fun q => zEv ph d 101 q L st M))
theorem e101_88 (ph : Bool) (d : Nat) (L st : List zV) (M : zM) : zEv ph d 101 88 L st M = zcont ph d 101 (zstep ph (zEm ph d) 4 89 0 [0] L st M) := zEv_step rfl
theorem e101_89 (ph : Bool) (d : Nat) (L st : List zV) (M : zM) : zEv ph d 101 89 L st M = zcont ph d 101 (zstep ph (zEm ph d) 62 92 0 [24, 0, 1, 27, 0] L st M) := zEv_step rfl
theorem e101_92 (ph : Bool) (d : Nat) (L st : List zV) (M : zM) : zEv ph d 101 92 L st M = zcont ph d 101 (zstep ph (zEm ph d) 0 93 0 [1] L st M) := zEv_step rfl
theorem e101_93 (ph : Bool) (d : Nat) (L st : List zV) (M : zM) : zEv ph d 101 93 L st M = zcont ph d 101 (zstep ph (zEm ph d) 0 95 0 [20] L st M) := zEv_step rfl
theorem e101_95 (ph : Bool) (d : Nat) (L st : List zV) (M : zM) : zEv ph d 101 95 L st M = zcont ph d 101 (zstep ph (zEm ph d) 70 98 146 [3, 1, 27] L st M) := zEv_step rfl
theorem e101_98 (ph : Bool) (d : Nat) (L st : List zV) (M : zM) : zEv ph d 101 98 L st M = zcont ph d 101 (zstep ph (zEm ph d) 5 100 0 [4] L st M) := zEv_step rfl
theorem e101_100 (ph : Bool) (d : Nat) (L st : List zV) (M : zM) : zEv ph d 101 100 L st M = zcont ph d 101 (zstep ph (zEm ph d) 2 102 0 [4] L st M) := zEv_step rfl
theorem e101_102 (ph : Bool) (d : Nat) (L st : List zV) (M : zM) : zEv ph d 101 102 L st M = zcont ph d 101 (zstep ph (zEm ph d) 0 103 0 [-1] L st M) := zEv_step rfl
theorem e101_103 (ph : Bool) (d : Nat) (L st : List zV) (M : zM) : zEv ph d 101 103 L st M = zcont ph d 101 (zstep ph (zEm ph d) 46 106 125 [] L st M) := zEv_step rfl
theorem e101_106 (ph : Bool) (d : Nat) (L st : List zV) (M : zM) : zEv ph d 101 106 L st M = zcont ph d 101 (zstep ph (zEm ph d) 4 107 0 [0] L st M) := zEv_step rfl
theorem e101_107 (ph : Bool) (d : Nat) (L st : List zV) (M : zM) : zEv ph d 101 107 L st M = zcont ph d 101 (zstep ph (zEm ph d) 62 110 0 [24, 4, 24, 20, 0] L st M) := zEv_step rfl
theorem e101_110 (ph : Bool) (d : Nat) (L st : List zV) (M : zM) : zEv ph d 101 110 L st M = zcont ph d 101 (zstep ph (zEm ph d) 0 111 0 [0] L st M) := zEv_step rfl
theorem e101_111 (ph : Bool) (d : Nat) (L st : List zV) (M : zM) : zEv ph d 101 111 L st M = zcont ph d 101 (zstep ph (zEm ph d) 2 112 0 [2] L st M) := zEv_step rfl
theorem e101_112 (ph : Bool) (d : Nat) (L st : List zV) (M : zM) : zEv ph d 101 112 L st M = zcont ph d 101 (zstep ph (zEm ph d) 0 113 0 [0] L st M) := zEv_step rfl
theorem e101_113 (ph : Bool) (d : Nat) (L st : List zV) (M : zM) : zEv ph d 101 113 L st M = zcont ph d 101 (zstep ph (zEm ph d) 2 115 0 [4] L st M) := zEv_step rfl
theorem e101_115 (ph : Bool) (d : Nat) (L st : List zV) (M : zM) : zEv ph d 101 115 L st M = zcont ph d 101 (zstep ph (zEm ph d) 70 118 64 [5, 1, 20] L st M) := zEv_step rfl
theorem e101_118 (ph : Bool) (d : Nat) (L st : List zV) (M : zM) : zEv ph d 101 118 L st M = zcont ph d 101 (zstep ph (zEm ph d) 40 121 125 [] L st M) := zEv_step rfl
theorem e101_121 (ph : Bool) (d : Nat) (L st : List zV) (M : zM) : zEv ph d 101 121 L st M = zcont ph d 101 (zstep ph (zEm ph d) 0 122 0 [1] L st M) := zEv_step rfl
theorem e101_122 (ph : Bool) (d : Nat) (L st : List zV) (M : zM) : zEv ph d 101 122 L st M = zcont ph d 101 (zstep ph (zEm ph d) 52 125 126 [] L st M) := zEv_step rfl
theorem e101_125 (ph : Bool) (d : Nat) (L st : List zV) (M : zM) : zEv ph d 101 125 L st M = zcont ph d 101 (zstep ph (zEm ph d) 0 126 0 [0] L st M) := zEv_step rfl
theorem e101_126 (ph : Bool) (d : Nat) (L st : List zV) (M : zM) : zEv ph d 101 126 L st M = zcont ph d 101 (zstep ph (zEm ph d) 80 127 0 [0, 1] L st M) := zEv_step rfl
theorem e101_127 (ph : Bool) (d : Nat) (L st : List zV) (M : zM) : zEv ph d 101 127 L st M = zcont ph d 101 (zstep ph (zEm ph d) 4 128 0 [0] L st M) := zEv_step rfl
theorem e101_128 (ph : Bool) (d : Nat) (L st : List zV) (M : zM) : zEv ph d 101 128 L st M = zcont ph d 101 (zstep ph (zEm ph d) 62 131 0 [24, 4, 24, 20, 0] L st M) := zEv_step rfl
theorem e101_131 (ph : Bool) (d : Nat) (L st : List zV) (M : zM) : zEv ph d 101 131 L st M = zcont ph d 101 (zstep ph (zEm ph d) 0 133 0 [10] L st M) := zEv_step rfl
theorem e101_133 (ph : Bool) (d : Nat) (L st : List zV) (M : zM) : zEv ph d 101 133 L st M = zcont ph d 101 (zstep ph (zEm ph d) 2 134 0 [2] L st M) := zEv_step rfl
theorem e101_134 (ph : Bool) (d : Nat) (L st : List zV) (M : zM) : zEv ph d 101 134 L st M = zcont ph d 101 (zstep ph (zEm ph d) 0 135 0 [0] L st M) := zEv_step rfl
theorem e101_135 (ph : Bool) (d : Nat) (L st : List zV) (M : zM) : zEv ph d 101 135 L st M = zcont ph d 101 (zstep ph (zEm ph d) 0 136 0 [0] L st M) := zEv_step rfl
theorem e101_136 (ph : Bool) (d : Nat) (L st : List zV) (M : zM) : zEv ph d 101 136 L st M = zcont ph d 101 (zstep ph (zEm ph d) 70 139 64 [5, 1, 20] L st M) := zEv_step rfl
theorem e101_139 (ph : Bool) (d : Nat) (L st : List zV) (M : zM) : zEv ph d 101 139 L st M = zcont ph d 101 (zstep ph (zEm ph d) 80 140 0 [0, 1] L st M) := zEv_step rfl
theorem e101_140 (ph : Bool) (d : Nat) (L st : List zV) (M : zM) : zEv ph d 101 140 L st M = zcont ph d 101 (zstep ph (zEm ph d) 4 141 0 [0] L st M) := zEv_step rfl
theorem e101_141 (ph : Bool) (d : Nat) (L st : List zV) (M : zM) : zEv ph d 101 141 L st M = zcont ph d 101 (zstep ph (zEm ph d) 62 144 0 [24, 4, 24, 20, 0] L st M) := zEv_step rfl
theorem e101_144 (ph : Bool) (d : Nat) (L st : List zV) (M : zM) : zEv ph d 101 144 L st M = zcont ph d 101 (zstep ph (zEm ph d) 0 146 0 [20] L st M) := zEv_step rfl
theorem e101_146 (ph : Bool) (d : Nat) (L st : List zV) (M : zM) : zEv ph d 101 146 L st M = zcont ph d 101 (zstep ph (zEm ph d) 2 147 0 [2] L st M) := zEv_step rfl
theorem e101_147 (ph : Bool) (d : Nat) (L st : List zV) (M : zM) : zEv ph d 101 147 L st M = zcont ph d 101 (zstep ph (zEm ph d) 0 148 0 [0] L st M) := zEv_step rfl
theorem e101_148 (ph : Bool) (d : Nat) (L st : List zV) (M : zM) : zEv ph d 101 148 L st M = zcont ph d 101 (zstep ph (zEm ph d) 0 149 0 [0] L st M) := zEv_step rfl
theorem e101_149 (ph : Bool) (d : Nat) (L st : List zV) (M : zM) : zEv ph d 101 149 L st M = zcont ph d 101 (zstep ph (zEm ph d) 70 152 64 [5, 1, 20] L st M) := zEv_step rfl
theorem e101_152 (ph : Bool) (d : Nat) (L st : List zV) (M : zM) : zEv ph d 101 152 L st M = zcont ph d 101 (zstep ph (zEm ph d) 80 153 0 [0, 1] L st M) := zEv_step rfl
theorem e101_153 (ph : Bool) (d : Nat) (L st : List zV) (M : zM) : zEv ph d 101 153 L st M = zcont ph d 101 (zstep ph (zEm ph d) 4 154 0 [0] L st M) := zEv_step rfl
theorem e101_154 (ph : Bool) (d : Nat) (L st : List zV) (M : zM) : zEv ph d 101 154 L st M = zcont ph d 101 (zstep ph (zEm ph d) 62 157 0 [24, 0, 1, 27, 0] L st M) := zEv_step rfl
theorem e101_157 (ph : Bool) (d : Nat) (L st : List zV) (M : zM) : zEv ph d 101 157 L st M = zcont ph d 101 (zstep ph (zEm ph d) 4 158 0 [1] L st M) := zEv_step rfl
theorem e101_158 (ph : Bool) (d : Nat) (L st : List zV) (M : zM) : zEv ph d 101 158 L st M = zcont ph d 101 (zstep ph (zEm ph d) 62 161 0 [28, 2, 3, 11, 5] L st M) := zEv_step rfl
theorem e101_161 (ph : Bool) (d : Nat) (L st : List zV) (M : zM) : zEv ph d 101 161 L st M = zcont ph d 101 (zstep ph (zEm ph d) 4 162 0 [1] L st M) := zEv_step rfl
theorem e101_162 (ph : Bool) (d : Nat) (L st : List zV) (M : zM) : zEv ph d 101 162 L st M = zcont ph d 101 (zstep ph (zEm ph d) 60 165 0 [28, 8] L st M) := zEv_step rfl
theorem e101_165 (ph : Bool) (d : Nat) (L st : List zV) (M : zM) : zEv ph d 101 165 L st M = zcont ph d 101 (zstep ph (zEm ph d) 70 168 150 [3, 1, 27] L st M) := zEv_step rfl
theorem e101_168 (ph : Bool) (d : Nat) (L st : List zV) (M : zM) : zEv ph d 101 168 L st M = zcont ph d 101 (zstep ph (zEm ph d) 5 170 0 [5] L st M) := zEv_step rfl
theorem e101_170 (ph : Bool) (d : Nat) (L st : List zV) (M : zM) : zEv ph d 101 170 L st M = zcont ph d 101 (zstep ph (zEm ph d) 2 172 0 [5] L st M) := zEv_step rfl
theorem e101_172 (ph : Bool) (d : Nat) (L st : List zV) (M : zM) : zEv ph d 101 172 L st M = zcont ph d 101 (zstep ph (zEm ph d) 0 173 0 [-1] L st M) := zEv_step rfl
theorem e101_173 (ph : Bool) (d : Nat) (L st : List zV) (M : zM) : zEv ph d 101 173 L st M = zcont ph d 101 (zstep ph (zEm ph d) 47 176 180 [] L st M) := zEv_step rfl
theorem e101_176 (ph : Bool) (d : Nat) (L st : List zV) (M : zM) : zEv ph d 101 176 L st M = zcont ph d 101 (zstep ph (zEm ph d) 0 177 0 [-1] L st M) := zEv_step rfl
theorem e101_177 (ph : Bool) (d : Nat) (L st : List zV) (M : zM) : zEv ph d 101 177 L st M = zcont ph d 101 (zstep ph (zEm ph d) 52 180 187 [] L st M) := zEv_step rfl
theorem e101_180 (ph : Bool) (d : Nat) (L st : List zV) (M : zM) : zEv ph d 101 180 L st M = zcont ph d 101 (zstep ph (zEm ph d) 4 181 0 [0] L st M) := zEv_step rfl
theorem e101_181 (ph : Bool) (d : Nat) (L st : List zV) (M : zM) : zEv ph d 101 181 L st M = zcont ph d 101 (zstep ph (zEm ph d) 62 184 0 [24, 0, 1, 27, 0] L st M) := zEv_step rfl
theorem e101_184 (ph : Bool) (d : Nat) (L st : List zV) (M : zM) : zEv ph d 101 184 L st M = zcont ph d 101 (zstep ph (zEm ph d) 70 187 148 [1, 1, 27] L st M) := zEv_step rfl
theorem e101_187 (ph : Bool) (d : Nat) (L st : List zV) (M : zM) : zEv ph d 101 187 L st M = zcont ph d 101 (zstep ph (zEm ph d) 5 189 0 [6] L st M) := zEv_step rfl
theorem e101_189 (ph : Bool) (d : Nat) (L st : List zV) (M : zM) : zEv ph d 101 189 L st M = zcont ph d 101 (zstep ph (zEm ph d) 2 191 0 [6] L st M) := zEv_step rfl
theorem e101_191 (ph : Bool) (d : Nat) (L st : List zV) (M : zM) : zEv ph d 101 191 L st M = zcont ph d 101 (zstep ph (zEm ph d) 0 192 0 [-1] L st M) := zEv_step rfl
theorem e101_192 (ph : Bool) (d : Nat) (L st : List zV) (M : zM) : zEv ph d 101 192 L st M = zcont ph d 101 (zstep ph (zEm ph d) 46 195 216 [] L st M) := zEv_step rfl
theorem e101_195 (ph : Bool) (d : Nat) (L st : List zV) (M : zM) : zEv ph d 101 195 L st M = zcont ph d 101 (zstep ph (zEm ph d) 4 196 0 [0] L st M) := zEv_step rfl
theorem e101_196 (ph : Bool) (d : Nat) (L st : List zV) (M : zM) : zEv ph d 101 196 L st M = zcont ph d 101 (zstep ph (zEm ph d) 62 199 0 [24, 4, 24, 20, 0] L st M) := zEv_step rfl
theorem e101_199 (ph : Bool) (d : Nat) (L st : List zV) (M : zM) : zEv ph d 101 199 L st M = zcont ph d 101 (zstep ph (zEm ph d) 0 201 0 [30] L st M) := zEv_step rfl
theorem e101_201 (ph : Bool) (d : Nat) (L st : List zV) (M : zM) : zEv ph d 101 201 L st M = zcont ph d 101 (zstep ph (zEm ph d) 2 202 0 [2] L st M) := zEv_step rfl
theorem e101_202 (ph : Bool) (d : Nat) (L st : List zV) (M : zM) : zEv ph d 101 202 L st M = zcont ph d 101 (zstep ph (zEm ph d) 2 204 0 [5] L st M) := zEv_step rfl
theorem e101_204 (ph : Bool) (d : Nat) (L st : List zV) (M : zM) : zEv ph d 101 204 L st M = zcont ph d 101 (zstep ph (zEm ph d) 2 206 0 [6] L st M) := zEv_step rfl
theorem e101_206 (ph : Bool) (d : Nat) (L st : List zV) (M : zM) : zEv ph d 101 206 L st M = zcont ph d 101 (zstep ph (zEm ph d) 70 209 64 [5, 1, 20] L st M) := zEv_step rfl
theorem e101_209 (ph : Bool) (d : Nat) (L st : List zV) (M : zM) : zEv ph d 101 209 L st M = zcont ph d 101 (zstep ph (zEm ph d) 40 212 216 [] L st M) := zEv_step rfl
theorem e101_212 (ph : Bool) (d : Nat) (L st : List zV) (M : zM) : zEv ph d 101 212 L st M = zcont ph d 101 (zstep ph (zEm ph d) 0 213 0 [1] L st M) := zEv_step rfl
theorem e101_213 (ph : Bool) (d : Nat) (L st : List zV) (M : zM) : zEv ph d 101 213 L st M = zcont ph d 101 (zstep ph (zEm ph d) 52 216 217 [] L st M) := zEv_step rfl
theorem e101_216 (ph : Bool) (d : Nat) (L st : List zV) (M : zM) : zEv ph d 101 216 L st M = zcont ph d 101 (zstep ph (zEm ph d) 0 217 0 [0] L st M) := zEv_step rfl
theorem e101_217 (ph : Bool) (d : Nat) (L st : List zV) (M : zM) : zEv ph d 101 217 L st M = zcont ph d 101 (zstep ph (zEm ph d) 80 218 0 [0, 1] L st M) := zEv_step rfl
theorem m102 (ph : Bool) (d : Nat) (a x0 p0 y0 p1 y1 : Int) (M : zM) : zEm ph (d + 1) 102 [(24, a, x0), (28, p0, y0), (4, p1, y1)] M = zEv ph d 102 0 [(24, a, x0), (28, p0, y0), (4, p1, y1), (3, 0, 0), (3, 0, 0), (3, 0, 0), (3, 0, 0)] [] M := rfl
theorem e102_0 (ph : Bool) (d : Nat) (L st : List zV) (M : zM) : zEv ph d 102 0 L st M = zcont ph d 102 (zstep ph (zEm ph d) 78 3 0 [0, 34] L st M) := zEv_step rfl
theorem e102_3 (ph : Bool) (d : Nat) (L st : List zV) (M : zM) : zEv ph d 102 3 L st M = zcont ph d 102 (zstep ph (zEm ph d) 4 4 0 [2] L st M) := zEv_step rfl
theorem e102_4 (ph : Bool) (d : Nat) (L st : List zV) (M : zM) : zEv ph d 102 4 L st M = zcont ph d 102 (zstep ph (zEm ph d) 76 7 0 [] L st M) := zEv_step rfl
theorem e102_7 (ph : Bool) (d : Nat) (L st : List zV) (M : zM) : zEv ph d 102 7 L st M = zcont ph d 102 (zstep ph (zEm ph d) 85 8 0 [] L st M) := zEv_step rfl
theorem e102_8 (ph : Bool) (d : Nat) (a y : Int) (L st : List zV) (M : zM) : zEv ph d 102 8 L ((0, a, y) :: st) M = dite (a = 19) (fun _ => zEv ph d 102 44 L st M) (fun _ => dite (a = 20) (fun _ => zEv ph d 102 86 L st M) (fun _ => dite (a = 21) (fun _ => zEv ph d 102 146 L st M) (fun _ => dite (a = 22) (fun _ => zEv ph d 102 159 L st M) (fun _ => dite (a = 23) (fun _ => zEv ph d 102 172 L st M) (fun _ => zEv ph d 102 185 L st M))))) := (zEv_step (op := 56) (nx := 44) (tg := 185) (r := [19, 44, 86, 146, 159, 172]) rfl).trans (zts5 (fun q => zEv ph d 102 q L st M))
theorem e102_44 (ph : Bool) (d : Nat) (L st : List zV) (M : zM) : zEv ph d 102 44 L st M = zcont ph d 102 (zstep ph (zEm ph d) 4 45 0 [0] L st M) := zEv_step rfl
theorem e102_45 (ph : Bool) (d : Nat) (L st : List zV) (M : zM) : zEv ph d 102 45 L st M = zcont ph d 102 (zstep ph (zEm ph d) 62 48 0 [24, 0, 1, 27, 0] L st M) := zEv_step rfl
theorem e102_48 (ph : Bool) (d : Nat) (L st : List zV) (M : zM) : zEv ph d 102 48 L st M = zcont ph d 102 (zstep ph (zEm ph d) 4 49 0 [1] L st M) := zEv_step rfl
theorem e102_49 (ph : Bool) (d : Nat) (L st : List zV) (M : zM) : zEv ph d 102 49 L st M = zcont ph d 102 (zstep ph (zEm ph d) 62 52 0 [28, 2, 3, 11, 5] L st M) := zEv_step rfl
theorem e102_52 (ph : Bool) (d : Nat) (L st : List zV) (M : zM) : zEv ph d 102 52 L st M = zcont ph d 102 (zstep ph (zEm ph d) 4 53 0 [1] L st M) := zEv_step rfl
theorem e102_53 (ph : Bool) (d : Nat) (L st : List zV) (M : zM) : zEv ph d 102 53 L st M = zcont ph d 102 (zstep ph (zEm ph d) 60 56 0 [28, 8] L st M) := zEv_step rfl
theorem e102_56 (ph : Bool) (d : Nat) (L st : List zV) (M : zM) : zEv ph d 102 56 L st M = zcont ph d 102 (zstep ph (zEm ph d) 70 59 150 [3, 1, 27] L st M) := zEv_step rfl
theorem e102_59 (ph : Bool) (d : Nat) (L st : List zV) (M : zM) : zEv ph d 102 59 L st M = zcont ph d 102 (zstep ph (zEm ph d) 5 60 0 [3] L st M) := zEv_step rfl
theorem e102_60 (ph : Bool) (d : Nat) (L st : List zV) (M : zM) : zEv ph d 102 60 L st M = zcont ph d 102 (zstep ph (zEm ph d) 2 61 0 [3] L st M) := zEv_step rfl
theorem e102_61 (ph : Bool) (d : Nat) (L st : List zV) (M : zM) : zEv ph d 102 61 L st M = zcont ph d 102 (zstep ph (zEm ph d) 0 62 0 [-1] L st M) := zEv_step rfl
theorem e102_62 (ph : Bool) (d : Nat) (L st : List zV) (M : zM) : zEv ph d 102 62 L st M = zcont ph d 102 (zstep ph (zEm ph d) 46 65 84 [] L st M) := zEv_step rfl
theorem e102_65 (ph : Bool) (d : Nat) (L st : List zV) (M : zM) : zEv ph d 102 65 L st M = zcont ph d 102 (zstep ph (zEm ph d) 4 66 0 [0] L st M) := zEv_step rfl
theorem e102_66 (ph : Bool) (d : Nat) (L st : List zV) (M : zM) : zEv ph d 102 66 L st M = zcont ph d 102 (zstep ph (zEm ph d) 62 69 0 [24, 4, 24, 20, 0] L st M) := zEv_step rfl
theorem e102_69 (ph : Bool) (d : Nat) (L st : List zV) (M : zM) : zEv ph d 102 69 L st M = zcont ph d 102 (zstep ph (zEm ph d) 0 71 0 [40] L st M) := zEv_step rfl
theorem e102_71 (ph : Bool) (d : Nat) (L st : List zV) (M : zM) : zEv ph d 102 71 L st M = zcont ph d 102 (zstep ph (zEm ph d) 0 72 0 [0] L st M) := zEv_step rfl
theorem e102_72 (ph : Bool) (d : Nat) (L st : List zV) (M : zM) : zEv ph d 102 72 L st M = zcont ph d 102 (zstep ph (zEm ph d) 2 73 0 [3] L st M) := zEv_step rfl
theorem e102_73 (ph : Bool) (d : Nat) (L st : List zV) (M : zM) : zEv ph d 102 73 L st M = zcont ph d 102 (zstep ph (zEm ph d) 0 74 0 [0] L st M) := zEv_step rfl
theorem e102_74 (ph : Bool) (d : Nat) (L st : List zV) (M : zM) : zEv ph d 102 74 L st M = zcont ph d 102 (zstep ph (zEm ph d) 70 77 64 [5, 1, 20] L st M) := zEv_step rfl
theorem e102_77 (ph : Bool) (d : Nat) (L st : List zV) (M : zM) : zEv ph d 102 77 L st M = zcont ph d 102 (zstep ph (zEm ph d) 40 80 84 [] L st M) := zEv_step rfl
theorem e102_80 (ph : Bool) (d : Nat) (L st : List zV) (M : zM) : zEv ph d 102 80 L st M = zcont ph d 102 (zstep ph (zEm ph d) 0 81 0 [1] L st M) := zEv_step rfl
theorem e102_81 (ph : Bool) (d : Nat) (L st : List zV) (M : zM) : zEv ph d 102 81 L st M = zcont ph d 102 (zstep ph (zEm ph d) 52 84 85 [] L st M) := zEv_step rfl
theorem e102_84 (ph : Bool) (d : Nat) (L st : List zV) (M : zM) : zEv ph d 102 84 L st M = zcont ph d 102 (zstep ph (zEm ph d) 0 85 0 [0] L st M) := zEv_step rfl
theorem e102_85 (ph : Bool) (d : Nat) (L st : List zV) (M : zM) : zEv ph d 102 85 L st M = zcont ph d 102 (zstep ph (zEm ph d) 80 86 0 [0, 1] L st M) := zEv_step rfl
theorem e102_86 (ph : Bool) (d : Nat) (L st : List zV) (M : zM) : zEv ph d 102 86 L st M = zcont ph d 102 (zstep ph (zEm ph d) 4 87 0 [0] L st M) := zEv_step rfl
theorem e102_87 (ph : Bool) (d : Nat) (L st : List zV) (M : zM) : zEv ph d 102 87 L st M = zcont ph d 102 (zstep ph (zEm ph d) 62 90 0 [24, 0, 1, 27, 0] L st M) := zEv_step rfl
theorem e102_90 (ph : Bool) (d : Nat) (L st : List zV) (M : zM) : zEv ph d 102 90 L st M = zcont ph d 102 (zstep ph (zEm ph d) 70 93 148 [1, 1, 27] L st M) := zEv_step rfl
theorem e102_93 (ph : Bool) (d : Nat) (L st : List zV) (M : zM) : zEv ph d 102 93 L st M = zcont ph d 102 (zstep ph (zEm ph d) 5 95 0 [4] L st M) := zEv_step rfl
theorem e102_95 (ph : Bool) (d : Nat) (L st : List zV) (M : zM) : zEv ph d 102 95 L st M = zcont ph d 102 (zstep ph (zEm ph d) 2 97 0 [4] L st M) := zEv_step rfl
theorem e102_97 (ph : Bool) (d : Nat) (L st : List zV) (M : zM) : zEv ph d 102 97 L st M = zcont ph d 102 (zstep ph (zEm ph d) 0 98 0 [-1] L st M) := zEv_step rfl
theorem e102_98 (ph : Bool) (d : Nat) (L st : List zV) (M : zM) : zEv ph d 102 98 L st M = zcont ph d 102 (zstep ph (zEm ph d) 47 101 105 [] L st M) := zEv_step rfl
theorem e102_101 (ph : Bool) (d : Nat) (L st : List zV) (M : zM) : zEv ph d 102 101 L st M = zcont ph d 102 (zstep ph (zEm ph d) 0 102 0 [-1] L st M) := zEv_step rfl
theorem e102_102 (ph : Bool) (d : Nat) (L st : List zV) (M : zM) : zEv ph d 102 102 L st M = zcont ph d 102 (zstep ph (zEm ph d) 52 105 115 [] L st M) := zEv_step rfl
theorem e102_105 (ph : Bool) (d : Nat) (L st : List zV) (M : zM) : zEv ph d 102 105 L st M = zcont ph d 102 (zstep ph (zEm ph d) 4 106 0 [0] L st M) := zEv_step rfl
theorem e102_106 (ph : Bool) (d : Nat) (L st : List zV) (M : zM) : zEv ph d 102 106 L st M = zcont ph d 102 (zstep ph (zEm ph d) 62 109 0 [24, 0, 1, 27, 0] L st M) := zEv_step rfl
theorem e102_109 (ph : Bool) (d : Nat) (L st : List zV) (M : zM) : zEv ph d 102 109 L st M = zcont ph d 102 (zstep ph (zEm ph d) 0 110 0 [0] L st M) := zEv_step rfl
theorem e102_110 (ph : Bool) (d : Nat) (L st : List zV) (M : zM) : zEv ph d 102 110 L st M = zcont ph d 102 (zstep ph (zEm ph d) 0 112 0 [20] L st M) := zEv_step rfl
theorem e102_112 (ph : Bool) (d : Nat) (L st : List zV) (M : zM) : zEv ph d 102 112 L st M = zcont ph d 102 (zstep ph (zEm ph d) 70 115 146 [3, 1, 27] L st M) := zEv_step rfl
theorem e102_115 (ph : Bool) (d : Nat) (L st : List zV) (M : zM) : zEv ph d 102 115 L st M = zcont ph d 102 (zstep ph (zEm ph d) 5 117 0 [5] L st M) := zEv_step rfl
theorem e102_117 (ph : Bool) (d : Nat) (L st : List zV) (M : zM) : zEv ph d 102 117 L st M = zcont ph d 102 (zstep ph (zEm ph d) 2 119 0 [5] L st M) := zEv_step rfl
theorem e102_119 (ph : Bool) (d : Nat) (L st : List zV) (M : zM) : zEv ph d 102 119 L st M = zcont ph d 102 (zstep ph (zEm ph d) 0 120 0 [-1] L st M) := zEv_step rfl
theorem e102_120 (ph : Bool) (d : Nat) (L st : List zV) (M : zM) : zEv ph d 102 120 L st M = zcont ph d 102 (zstep ph (zEm ph d) 46 123 144 [] L st M) := zEv_step rfl
theorem e102_123 (ph : Bool) (d : Nat) (L st : List zV) (M : zM) : zEv ph d 102 123 L st M = zcont ph d 102 (zstep ph (zEm ph d) 4 124 0 [0] L st M) := zEv_step rfl
theorem e102_124 (ph : Bool) (d : Nat) (L st : List zV) (M : zM) : zEv ph d 102 124 L st M = zcont ph d 102 (zstep ph (zEm ph d) 62 127 0 [24, 4, 24, 20, 0] L st M) := zEv_step rfl
theorem e102_127 (ph : Bool) (d : Nat) (L st : List zV) (M : zM) : zEv ph d 102 127 L st M = zcont ph d 102 (zstep ph (zEm ph d) 0 129 0 [50] L st M) := zEv_step rfl
theorem e102_129 (ph : Bool) (d : Nat) (L st : List zV) (M : zM) : zEv ph d 102 129 L st M = zcont ph d 102 (zstep ph (zEm ph d) 0 130 0 [0] L st M) := zEv_step rfl
theorem e102_130 (ph : Bool) (d : Nat) (L st : List zV) (M : zM) : zEv ph d 102 130 L st M = zcont ph d 102 (zstep ph (zEm ph d) 2 132 0 [4] L st M) := zEv_step rfl
theorem e102_132 (ph : Bool) (d : Nat) (L st : List zV) (M : zM) : zEv ph d 102 132 L st M = zcont ph d 102 (zstep ph (zEm ph d) 2 134 0 [5] L st M) := zEv_step rfl
theorem e102_134 (ph : Bool) (d : Nat) (L st : List zV) (M : zM) : zEv ph d 102 134 L st M = zcont ph d 102 (zstep ph (zEm ph d) 70 137 64 [5, 1, 20] L st M) := zEv_step rfl
theorem e102_137 (ph : Bool) (d : Nat) (L st : List zV) (M : zM) : zEv ph d 102 137 L st M = zcont ph d 102 (zstep ph (zEm ph d) 40 140 144 [] L st M) := zEv_step rfl
theorem e102_140 (ph : Bool) (d : Nat) (L st : List zV) (M : zM) : zEv ph d 102 140 L st M = zcont ph d 102 (zstep ph (zEm ph d) 0 141 0 [1] L st M) := zEv_step rfl
theorem e102_141 (ph : Bool) (d : Nat) (L st : List zV) (M : zM) : zEv ph d 102 141 L st M = zcont ph d 102 (zstep ph (zEm ph d) 52 144 145 [] L st M) := zEv_step rfl
theorem e102_144 (ph : Bool) (d : Nat) (L st : List zV) (M : zM) : zEv ph d 102 144 L st M = zcont ph d 102 (zstep ph (zEm ph d) 0 145 0 [0] L st M) := zEv_step rfl
theorem e102_145 (ph : Bool) (d : Nat) (L st : List zV) (M : zM) : zEv ph d 102 145 L st M = zcont ph d 102 (zstep ph (zEm ph d) 80 146 0 [0, 1] L st M) := zEv_step rfl
theorem e102_146 (ph : Bool) (d : Nat) (L st : List zV) (M : zM) : zEv ph d 102 146 L st M = zcont ph d 102 (zstep ph (zEm ph d) 4 147 0 [0] L st M) := zEv_step rfl
theorem e102_147 (ph : Bool) (d : Nat) (L st : List zV) (M : zM) : zEv ph d 102 147 L st M = zcont ph d 102 (zstep ph (zEm ph d) 62 150 0 [24, 4, 24, 20, 0] L st M) := zEv_step rfl
theorem e102_150 (ph : Bool) (d : Nat) (L st : List zV) (M : zM) : zEv ph d 102 150 L st M = zcont ph d 102 (zstep ph (zEm ph d) 0 152 0 [60] L st M) := zEv_step rfl
theorem e102_152 (ph : Bool) (d : Nat) (L st : List zV) (M : zM) : zEv ph d 102 152 L st M = zcont ph d 102 (zstep ph (zEm ph d) 0 153 0 [0] L st M) := zEv_step rfl
theorem e102_153 (ph : Bool) (d : Nat) (L st : List zV) (M : zM) : zEv ph d 102 153 L st M = zcont ph d 102 (zstep ph (zEm ph d) 0 154 0 [0] L st M) := zEv_step rfl
theorem e102_154 (ph : Bool) (d : Nat) (L st : List zV) (M : zM) : zEv ph d 102 154 L st M = zcont ph d 102 (zstep ph (zEm ph d) 0 155 0 [0] L st M) := zEv_step rfl
theorem e102_155 (ph : Bool) (d : Nat) (L st : List zV) (M : zM) : zEv ph d 102 155 L st M = zcont ph d 102 (zstep ph (zEm ph d) 70 158 64 [5, 1, 20] L st M) := zEv_step rfl
theorem e102_158 (ph : Bool) (d : Nat) (L st : List zV) (M : zM) : zEv ph d 102 158 L st M = zcont ph d 102 (zstep ph (zEm ph d) 80 159 0 [0, 1] L st M) := zEv_step rfl
theorem e102_159 (ph : Bool) (d : Nat) (L st : List zV) (M : zM) : zEv ph d 102 159 L st M = zcont ph d 102 (zstep ph (zEm ph d) 4 160 0 [0] L st M) := zEv_step rfl
theorem e102_160 (ph : Bool) (d : Nat) (L st : List zV) (M : zM) : zEv ph d 102 160 L st M = zcont ph d 102 (zstep ph (zEm ph d) 62 163 0 [24, 4, 24, 20, 0] L st M) := zEv_step rfl
theorem e102_163 (ph : Bool) (d : Nat) (L st : List zV) (M : zM) : zEv ph d 102 163 L st M = zcont ph d 102 (zstep ph (zEm ph d) 0 165 0 [60] L st M) := zEv_step rfl
theorem e102_165 (ph : Bool) (d : Nat) (L st : List zV) (M : zM) : zEv ph d 102 165 L st M = zcont ph d 102 (zstep ph (zEm ph d) 0 166 0 [0] L st M) := zEv_step rfl
theorem e102_166 (ph : Bool) (d : Nat) (L st : List zV) (M : zM) : zEv ph d 102 166 L st M = zcont ph d 102 (zstep ph (zEm ph d) 0 167 0 [1] L st M) := zEv_step rfl
theorem e102_167 (ph : Bool) (d : Nat) (L st : List zV) (M : zM) : zEv ph d 102 167 L st M = zcont ph d 102 (zstep ph (zEm ph d) 0 168 0 [0] L st M) := zEv_step rfl
theorem e102_168 (ph : Bool) (d : Nat) (L st : List zV) (M : zM) : zEv ph d 102 168 L st M = zcont ph d 102 (zstep ph (zEm ph d) 70 171 64 [5, 1, 20] L st M) := zEv_step rfl
theorem e102_171 (ph : Bool) (d : Nat) (L st : List zV) (M : zM) : zEv ph d 102 171 L st M = zcont ph d 102 (zstep ph (zEm ph d) 80 172 0 [0, 1] L st M) := zEv_step rfl
theorem e102_172 (ph : Bool) (d : Nat) (L st : List zV) (M : zM) : zEv ph d 102 172 L st M = zcont ph d 102 (zstep ph (zEm ph d) 4 173 0 [0] L st M) := zEv_step rfl
theorem e102_173 (ph : Bool) (d : Nat) (L st : List zV) (M : zM) : zEv ph d 102 173 L st M = zcont ph d 102 (zstep ph (zEm ph d) 62 176 0 [24, 4, 24, 20, 0] L st M) := zEv_step rfl
theorem e102_176 (ph : Bool) (d : Nat) (L st : List zV) (M : zM) : zEv ph d 102 176 L st M = zcont ph d 102 (zstep ph (zEm ph d) 0 178 0 [60] L st M) := zEv_step rfl
theorem e102_178 (ph : Bool) (d : Nat) (L st : List zV) (M : zM) : zEv ph d 102 178 L st M = zcont ph d 102 (zstep ph (zEm ph d) 0 179 0 [0] L st M) := zEv_step rfl
theorem e102_179 (ph : Bool) (d : Nat) (L st : List zV) (M : zM) : zEv ph d 102 179 L st M = zcont ph d 102 (zstep ph (zEm ph d) 0 180 0 [2] L st M) := zEv_step rfl
theorem e102_180 (ph : Bool) (d : Nat) (L st : List zV) (M : zM) : zEv ph d 102 180 L st M = zcont ph d 102 (zstep ph (zEm ph d) 0 181 0 [0] L st M) := zEv_step rfl
theorem e102_181 (ph : Bool) (d : Nat) (L st : List zV) (M : zM) : zEv ph d 102 181 L st M = zcont ph d 102 (zstep ph (zEm ph d) 70 184 64 [5, 1, 20] L st M) := zEv_step rfl
theorem e102_184 (ph : Bool) (d : Nat) (L st : List zV) (M : zM) : zEv ph d 102 184 L st M = zcont ph d 102 (zstep ph (zEm ph d) 80 185 0 [0, 1] L st M) := zEv_step rfl
theorem e102_185 (ph : Bool) (d : Nat) (L st : List zV) (M : zM) : zEv ph d 102 185 L st M = zcont ph d 102 (zstep ph (zEm ph d) 4 186 0 [0] L st M) := zEv_step rfl
theorem e102_186 (ph : Bool) (d : Nat) (L st : List zV) (M : zM) : zEv ph d 102 186 L st M = zcont ph d 102 (zstep ph (zEm ph d) 62 189 0 [24, 0, 1, 27, 0] L st M) := zEv_step rfl
theorem e102_189 (ph : Bool) (d : Nat) (L st : List zV) (M : zM) : zEv ph d 102 189 L st M = zcont ph d 102 (zstep ph (zEm ph d) 0 190 0 [1] L st M) := zEv_step rfl
theorem e102_190 (ph : Bool) (d : Nat) (L st : List zV) (M : zM) : zEv ph d 102 190 L st M = zcont ph d 102 (zstep ph (zEm ph d) 0 192 0 [60] L st M) := zEv_step rfl
theorem e102_192 (ph : Bool) (d : Nat) (L st : List zV) (M : zM) : zEv ph d 102 192 L st M = zcont ph d 102 (zstep ph (zEm ph d) 70 195 146 [3, 1, 27] L st M) := zEv_step rfl
theorem e102_195 (ph : Bool) (d : Nat) (L st : List zV) (M : zM) : zEv ph d 102 195 L st M = zcont ph d 102 (zstep ph (zEm ph d) 5 197 0 [6] L st M) := zEv_step rfl
theorem e102_197 (ph : Bool) (d : Nat) (L st : List zV) (M : zM) : zEv ph d 102 197 L st M = zcont ph d 102 (zstep ph (zEm ph d) 2 199 0 [6] L st M) := zEv_step rfl
theorem e102_199 (ph : Bool) (d : Nat) (L st : List zV) (M : zM) : zEv ph d 102 199 L st M = zcont ph d 102 (zstep ph (zEm ph d) 0 200 0 [-1] L st M) := zEv_step rfl
theorem e102_200 (ph : Bool) (d : Nat) (L st : List zV) (M : zM) : zEv ph d 102 200 L st M = zcont ph d 102 (zstep ph (zEm ph d) 46 203 223 [] L st M) := zEv_step rfl
theorem e102_203 (ph : Bool) (d : Nat) (L st : List zV) (M : zM) : zEv ph d 102 203 L st M = zcont ph d 102 (zstep ph (zEm ph d) 4 204 0 [0] L st M) := zEv_step rfl
theorem e102_204 (ph : Bool) (d : Nat) (L st : List zV) (M : zM) : zEv ph d 102 204 L st M = zcont ph d 102 (zstep ph (zEm ph d) 62 207 0 [24, 4, 24, 20, 0] L st M) := zEv_step rfl
theorem e102_207 (ph : Bool) (d : Nat) (L st : List zV) (M : zM) : zEv ph d 102 207 L st M = zcont ph d 102 (zstep ph (zEm ph d) 0 209 0 [70] L st M) := zEv_step rfl
theorem e102_209 (ph : Bool) (d : Nat) (L st : List zV) (M : zM) : zEv ph d 102 209 L st M = zcont ph d 102 (zstep ph (zEm ph d) 0 210 0 [0] L st M) := zEv_step rfl
theorem e102_210 (ph : Bool) (d : Nat) (L st : List zV) (M : zM) : zEv ph d 102 210 L st M = zcont ph d 102 (zstep ph (zEm ph d) 0 211 0 [0] L st M) := zEv_step rfl
theorem e102_211 (ph : Bool) (d : Nat) (L st : List zV) (M : zM) : zEv ph d 102 211 L st M = zcont ph d 102 (zstep ph (zEm ph d) 2 213 0 [6] L st M) := zEv_step rfl
theorem e102_213 (ph : Bool) (d : Nat) (L st : List zV) (M : zM) : zEv ph d 102 213 L st M = zcont ph d 102 (zstep ph (zEm ph d) 70 216 64 [5, 1, 20] L st M) := zEv_step rfl
theorem e102_216 (ph : Bool) (d : Nat) (L st : List zV) (M : zM) : zEv ph d 102 216 L st M = zcont ph d 102 (zstep ph (zEm ph d) 40 219 223 [] L st M) := zEv_step rfl
theorem e102_219 (ph : Bool) (d : Nat) (L st : List zV) (M : zM) : zEv ph d 102 219 L st M = zcont ph d 102 (zstep ph (zEm ph d) 0 220 0 [1] L st M) := zEv_step rfl
theorem e102_220 (ph : Bool) (d : Nat) (L st : List zV) (M : zM) : zEv ph d 102 220 L st M = zcont ph d 102 (zstep ph (zEm ph d) 52 223 224 [] L st M) := zEv_step rfl
theorem e102_223 (ph : Bool) (d : Nat) (L st : List zV) (M : zM) : zEv ph d 102 223 L st M = zcont ph d 102 (zstep ph (zEm ph d) 0 224 0 [0] L st M) := zEv_step rfl
theorem e102_224 (ph : Bool) (d : Nat) (L st : List zV) (M : zM) : zEv ph d 102 224 L st M = zcont ph d 102 (zstep ph (zEm ph d) 80 225 0 [0, 1] L st M) := zEv_step rfl
theorem m64 (ph : Bool) (d : Nat) (a x0 p0 y0 p1 y1 p2 y2 p3 y3 : Int) (M : zM) : zEm ph (d + 1) 64 [(20, a, x0), (0, p0, y0), (0, p1, y1), (0, p2, y2), (0, p3, y3)] M = zEv ph d 64 0 [(20, a, x0), (0, p0, y0), (0, p1, y1), (0, p2, y2), (0, p3, y3)] [] M := rfl
theorem e64_0 (ph : Bool) (d : Nat) (L st : List zV) (M : zM) : zEv ph d 64 0 L st M = zcont ph d 64 (zstep ph (zEm ph d) 4 1 0 [0] L st M) := zEv_step rfl
theorem e64_1 (ph : Bool) (d : Nat) (L st : List zV) (M : zM) : zEv ph d 64 1 L st M = zcont ph d 64 (zstep ph (zEm ph d) 60 4 0 [20, 4] L st M) := zEv_step rfl
theorem e64_4 (ph : Bool) (d : Nat) (L st : List zV) (M : zM) : zEv ph d 64 4 L st M = zcont ph d 64 (zstep ph (zEm ph d) 0 6 0 [40] L st M) := zEv_step rfl
theorem e64_6 (ph : Bool) (d : Nat) (L st : List zV) (M : zM) : zEv ph d 64 6 L st M = zcont ph d 64 (zstep ph (zEm ph d) 48 9 11 [] L st M) := zEv_step rfl
theorem e64_9 (ph : Bool) (d : Nat) (L st : List zV) (M : zM) : zEv ph d 64 9 L st M = zcont ph d 64 (zstep ph (zEm ph d) 0 10 0 [0] L st M) := zEv_step rfl
theorem e64_10 (ph : Bool) (d : Nat) (L st : List zV) (M : zM) : zEv ph d 64 10 L st M = zcont ph d 64 (zstep ph (zEm ph d) 80 11 0 [0, 1] L st M) := zEv_step rfl
theorem e64_11 (ph : Bool) (d : Nat) (L st : List zV) (M : zM) : zEv ph d 64 11 L st M = zcont ph d 64 (zstep ph (zEm ph d) 4 12 0 [0] L st M) := zEv_step rfl
theorem e64_12 (ph : Bool) (d : Nat) (L st : List zV) (M : zM) : zEv ph d 64 12 L st M = zcont ph d 64 (zstep ph (zEm ph d) 62 15 0 [20, 0, 1, 10, 40] L st M) := zEv_step rfl
theorem e64_15 (ph : Bool) (d : Nat) (L st : List zV) (M : zM) : zEv ph d 64 15 L st M = zcont ph d 64 (zstep ph (zEm ph d) 4 16 0 [0] L st M) := zEv_step rfl
theorem e64_16 (ph : Bool) (d : Nat) (L st : List zV) (M : zM) : zEv ph d 64 16 L st M = zcont ph d 64 (zstep ph (zEm ph d) 60 19 0 [20, 4] L st M) := zEv_step rfl
theorem e64_19 (ph : Bool) (d : Nat) (L st : List zV) (M : zM) : zEv ph d 64 19 L st M = zcont ph d 64 (zstep ph (zEm ph d) 2 20 0 [1] L st M) := zEv_step rfl
theorem e64_20 (ph : Bool) (d : Nat) (L st : List zV) (M : zM) : zEv ph d 64 20 L st M = zcont ph d 64 (zstep ph (zEm ph d) 89 21 0 [] L st M) := zEv_step rfl
theorem e64_21 (ph : Bool) (d : Nat) (L st : List zV) (M : zM) : zEv ph d 64 21 L st M = zcont ph d 64 (zstep ph (zEm ph d) 4 22 0 [0] L st M) := zEv_step rfl
theorem e64_22 (ph : Bool) (d : Nat) (L st : List zV) (M : zM) : zEv ph d 64 22 L st M = zcont ph d 64 (zstep ph (zEm ph d) 62 25 0 [20, 1, 2, 10, 40] L st M) := zEv_step rfl
theorem e64_25 (ph : Bool) (d : Nat) (L st : List zV) (M : zM) : zEv ph d 64 25 L st M = zcont ph d 64 (zstep ph (zEm ph d) 4 26 0 [0] L st M) := zEv_step rfl
theorem e64_26 (ph : Bool) (d : Nat) (L st : List zV) (M : zM) : zEv ph d 64 26 L st M = zcont ph d 64 (zstep ph (zEm ph d) 60 29 0 [20, 4] L st M) := zEv_step rfl
theorem e64_29 (ph : Bool) (d : Nat) (L st : List zV) (M : zM) : zEv ph d 64 29 L st M = zcont ph d 64 (zstep ph (zEm ph d) 2 30 0 [2] L st M) := zEv_step rfl
theorem e64_30 (ph : Bool) (d : Nat) (L st : List zV) (M : zM) : zEv ph d 64 30 L st M = zcont ph d 64 (zstep ph (zEm ph d) 89 31 0 [] L st M) := zEv_step rfl
theorem e64_31 (ph : Bool) (d : Nat) (L st : List zV) (M : zM) : zEv ph d 64 31 L st M = zcont ph d 64 (zstep ph (zEm ph d) 4 32 0 [0] L st M) := zEv_step rfl
theorem e64_32 (ph : Bool) (d : Nat) (L st : List zV) (M : zM) : zEv ph d 64 32 L st M = zcont ph d 64 (zstep ph (zEm ph d) 62 35 0 [20, 2, 3, 10, 40] L st M) := zEv_step rfl
theorem e64_35 (ph : Bool) (d : Nat) (L st : List zV) (M : zM) : zEv ph d 64 35 L st M = zcont ph d 64 (zstep ph (zEm ph d) 4 36 0 [0] L st M) := zEv_step rfl
theorem e64_36 (ph : Bool) (d : Nat) (L st : List zV) (M : zM) : zEv ph d 64 36 L st M = zcont ph d 64 (zstep ph (zEm ph d) 60 39 0 [20, 4] L st M) := zEv_step rfl
theorem e64_39 (ph : Bool) (d : Nat) (L st : List zV) (M : zM) : zEv ph d 64 39 L st M = zcont ph d 64 (zstep ph (zEm ph d) 2 40 0 [3] L st M) := zEv_step rfl
theorem e64_40 (ph : Bool) (d : Nat) (L st : List zV) (M : zM) : zEv ph d 64 40 L st M = zcont ph d 64 (zstep ph (zEm ph d) 89 41 0 [] L st M) := zEv_step rfl
theorem e64_41 (ph : Bool) (d : Nat) (L st : List zV) (M : zM) : zEv ph d 64 41 L st M = zcont ph d 64 (zstep ph (zEm ph d) 4 42 0 [0] L st M) := zEv_step rfl
theorem e64_42 (ph : Bool) (d : Nat) (L st : List zV) (M : zM) : zEv ph d 64 42 L st M = zcont ph d 64 (zstep ph (zEm ph d) 62 45 0 [20, 3, 4, 10, 40] L st M) := zEv_step rfl
theorem e64_45 (ph : Bool) (d : Nat) (L st : List zV) (M : zM) : zEv ph d 64 45 L st M = zcont ph d 64 (zstep ph (zEm ph d) 4 46 0 [0] L st M) := zEv_step rfl
theorem e64_46 (ph : Bool) (d : Nat) (L st : List zV) (M : zM) : zEv ph d 64 46 L st M = zcont ph d 64 (zstep ph (zEm ph d) 60 49 0 [20, 4] L st M) := zEv_step rfl
theorem e64_49 (ph : Bool) (d : Nat) (L st : List zV) (M : zM) : zEv ph d 64 49 L st M = zcont ph d 64 (zstep ph (zEm ph d) 2 51 0 [4] L st M) := zEv_step rfl
theorem e64_51 (ph : Bool) (d : Nat) (L st : List zV) (M : zM) : zEv ph d 64 51 L st M = zcont ph d 64 (zstep ph (zEm ph d) 89 52 0 [] L st M) := zEv_step rfl
theorem e64_52 (ph : Bool) (d : Nat) (L st : List zV) (M : zM) : zEv ph d 64 52 L st M = zcont ph d 64 (zstep ph (zEm ph d) 4 53 0 [0] L st M) := zEv_step rfl
theorem e64_53 (ph : Bool) (d : Nat) (L st : List zV) (M : zM) : zEv ph d 64 53 L st M = zcont ph d 64 (zstep ph (zEm ph d) 36 54 0 [] L st M) := zEv_step rfl
theorem e64_54 (ph : Bool) (d : Nat) (L st : List zV) (M : zM) : zEv ph d 64 54 L st M = zcont ph d 64 (zstep ph (zEm ph d) 60 57 0 [20, 4] L st M) := zEv_step rfl
theorem e64_57 (ph : Bool) (d : Nat) (L st : List zV) (M : zM) : zEv ph d 64 57 L st M = zcont ph d 64 (zstep ph (zEm ph d) 0 58 0 [1] L st M) := zEv_step rfl
theorem e64_58 (ph : Bool) (d : Nat) (L st : List zV) (M : zM) : zEv ph d 64 58 L st M = zcont ph d 64 (zstep ph (zEm ph d) 10 59 0 [] L st M) := zEv_step rfl
theorem e64_59 (ph : Bool) (d : Nat) (L st : List zV) (M : zM) : zEv ph d 64 59 L st M = zcont ph d 64 (zstep ph (zEm ph d) 65 62 0 [20, 4] L st M) := zEv_step rfl
theorem e64_62 (ph : Bool) (d : Nat) (L st : List zV) (M : zM) : zEv ph d 64 62 L st M = zcont ph d 64 (zstep ph (zEm ph d) 0 63 0 [1] L st M) := zEv_step rfl
theorem e64_63 (ph : Bool) (d : Nat) (L st : List zV) (M : zM) : zEv ph d 64 63 L st M = zcont ph d 64 (zstep ph (zEm ph d) 80 64 0 [0, 1] L st M) := zEv_step rfl
theorem m281 (ph : Bool) (d : Nat) (a x0 : Int) (M : zM) : zEm ph (d + 1) 281 [(30, a, x0)] M = zEv ph d 281 0 [(30, a, x0)] [] M := rfl
theorem e281_0 (ph : Bool) (d : Nat) (L st : List zV) (M : zM) : zEv ph d 281 0 L st M = zcont ph d 281 (zstep ph (zEm ph d) 4 1 0 [0] L st M) := zEv_step rfl
theorem e281_1 (ph : Bool) (d : Nat) (L st : List zV) (M : zM) : zEv ph d 281 1 L st M = zcont ph d 281 (zstep ph (zEm ph d) 70 4 279 [1, 1, 30] L st M) := zEv_step rfl
theorem e281_4 (ph : Bool) (d : Nat) (L st : List zV) (M : zM) : zEv ph d 281 4 L st M = zcont ph d 281 (zstep ph (zEm ph d) 41 7 48 [] L st M) := zEv_step rfl
theorem e281_7 (ph : Bool) (d : Nat) (L st : List zV) (M : zM) : zEv ph d 281 7 L st M = zcont ph d 281 (zstep ph (zEm ph d) 4 8 0 [0] L st M) := zEv_step rfl
theorem e281_8 (ph : Bool) (d : Nat) (L st : List zV) (M : zM) : zEv ph d 281 8 L st M = zcont ph d 281 (zstep ph (zEm ph d) 70 11 181 [1, 1, 30] L st M) := zEv_step rfl
theorem e281_11 (ph : Bool) (d : Nat) (L st : List zV) (M : zM) : zEv ph d 281 11 L st M = zcont ph d 281 (zstep ph (zEm ph d) 41 14 20 [] L st M) := zEv_step rfl
theorem e281_14 (ph : Bool) (d : Nat) (L st : List zV) (M : zM) : zEv ph d 281 14 L st M = zcont ph d 281 (zstep ph (zEm ph d) 4 15 0 [0] L st M) := zEv_step rfl
theorem e281_15 (ph : Bool) (d : Nat) (L st : List zV) (M : zM) : zEv ph d 281 15 L st M = zcont ph d 281 (zstep ph (zEm ph d) 0 16 0 [1] L st M) := zEv_step rfl
theorem e281_16 (ph : Bool) (d : Nat) (L st : List zV) (M : zM) : zEv ph d 281 16 L st M = zcont ph d 281 (zstep ph (zEm ph d) 70 19 182 [2, 1, 30] L st M) := zEv_step rfl
theorem e281_19 (ph : Bool) (d : Nat) (L st : List zV) (M : zM) : zEv ph d 281 19 L st M = zcont ph d 281 (zstep ph (zEm ph d) 80 20 0 [0, 1] L st M) := zEv_step rfl
theorem e281_20 (ph : Bool) (d : Nat) (L st : List zV) (M : zM) : zEv ph d 281 20 L st M = zcont ph d 281 (zstep ph (zEm ph d) 4 21 0 [0] L st M) := zEv_step rfl
theorem e281_21 (ph : Bool) (d : Nat) (L st : List zV) (M : zM) : zEv ph d 281 21 L st M = zcont ph d 281 (zstep ph (zEm ph d) 62 24 0 [30, 19, 7, 11, 20] L st M) := zEv_step rfl
theorem e281_24 (ph : Bool) (d : Nat) (L st : List zV) (M : zM) : zEv ph d 281 24 L st M = zcont ph d 281 (zstep ph (zEm ph d) 0 25 0 [5] L st M) := zEv_step rfl
theorem e281_25 (ph : Bool) (d : Nat) (L st : List zV) (M : zM) : zEv ph d 281 25 L st M = zcont ph d 281 (zstep ph (zEm ph d) 4 26 0 [0] L st M) := zEv_step rfl
theorem e281_26 (ph : Bool) (d : Nat) (L st : List zV) (M : zM) : zEv ph d 281 26 L st M = zcont ph d 281 (zstep ph (zEm ph d) 62 29 0 [30, 14, 2, 10, 368] L st M) := zEv_step rfl
theorem e281_29 (ph : Bool) (d : Nat) (L st : List zV) (M : zM) : zEv ph d 281 29 L st M = zcont ph d 281 (zstep ph (zEm ph d) 0 30 0 [1] L st M) := zEv_step rfl
theorem e281_30 (ph : Bool) (d : Nat) (L st : List zV) (M : zM) : zEv ph d 281 30 L st M = zcont ph d 281 (zstep ph (zEm ph d) 85 31 0 [] L st M) := zEv_step rfl
theorem e281_31 (ph : Bool) (d : Nat) (L st : List zV) (M : zM) : zEv ph d 281 31 L st M = zcont ph d 281 (zstep ph (zEm ph d) 4 32 0 [0] L st M) := zEv_step rfl
theorem e281_32 (ph : Bool) (d : Nat) (L st : List zV) (M : zM) : zEv ph d 281 32 L st M = zcont ph d 281 (zstep ph (zEm ph d) 61 35 0 [30, 12] L st M) := zEv_step rfl
theorem e281_35 (ph : Bool) (d : Nat) (L st : List zV) (M : zM) : zEv ph d 281 35 L st M = zcont ph d 281 (zstep ph (zEm ph d) 70 38 188 [4, 1, -1] L st M) := zEv_step rfl
theorem e281_38 (ph : Bool) (d : Nat) (L st : List zV) (M : zM) : zEv ph d 281 38 L st M = zcont ph d 281 (zstep ph (zEm ph d) 0 39 0 [-1] L st M) := zEv_step rfl
theorem e281_39 (ph : Bool) (d : Nat) (L st : List zV) (M : zM) : zEv ph d 281 39 L st M = zcont ph d 281 (zstep ph (zEm ph d) 47 42 48 [] L st M) := zEv_step rfl
theorem e281_42 (ph : Bool) (d : Nat) (L st : List zV) (M : zM) : zEv ph d 281 42 L st M = zcont ph d 281 (zstep ph (zEm ph d) 4 43 0 [0] L st M) := zEv_step rfl
theorem e281_43 (ph : Bool) (d : Nat) (L st : List zV) (M : zM) : zEv ph d 281 43 L st M = zcont ph d 281 (zstep ph (zEm ph d) 0 44 0 [3] L st M) := zEv_step rfl
theorem e281_44 (ph : Bool) (d : Nat) (L st : List zV) (M : zM) : zEv ph d 281 44 L st M = zcont ph d 281 (zstep ph (zEm ph d) 70 47 182 [2, 1, 30] L st M) := zEv_step rfl
theorem e281_47 (ph : Bool) (d : Nat) (L st : List zV) (M : zM) : zEv ph d 281 47 L st M = zcont ph d 281 (zstep ph (zEm ph d) 80 48 0 [0, 1] L st M) := zEv_step rfl
theorem e281_48 (ph : Bool) (d : Nat) (L st : List zV) (M : zM) : zEv ph d 281 48 L st M = zcont ph d 281 (zstep ph (zEm ph d) 4 49 0 [0] L st M) := zEv_step rfl
theorem e281_49 (ph : Bool) (d : Nat) (L st : List zV) (M : zM) : zEv ph d 281 49 L st M = zcont ph d 281 (zstep ph (zEm ph d) 60 52 0 [30, 43] L st M) := zEv_step rfl
theorem e281_52 (ph : Bool) (d : Nat) (L st : List zV) (M : zM) : zEv ph d 281 52 L st M = zcont ph d 281 (zstep ph (zEm ph d) 0 54 0 [40] L st M) := zEv_step rfl
theorem e281_54 (ph : Bool) (d : Nat) (L st : List zV) (M : zM) : zEv ph d 281 54 L st M = zcont ph d 281 (zstep ph (zEm ph d) 47 57 63 [] L st M) := zEv_step rfl
theorem e281_57 (ph : Bool) (d : Nat) (L st : List zV) (M : zM) : zEv ph d 281 57 L st M = zcont ph d 281 (zstep ph (zEm ph d) 4 58 0 [0] L st M) := zEv_step rfl
theorem e281_58 (ph : Bool) (d : Nat) (L st : List zV) (M : zM) : zEv ph d 281 58 L st M = zcont ph d 281 (zstep ph (zEm ph d) 0 59 0 [4] L st M) := zEv_step rfl
theorem e281_59 (ph : Bool) (d : Nat) (L st : List zV) (M : zM) : zEv ph d 281 59 L st M = zcont ph d 281 (zstep ph (zEm ph d) 70 62 182 [2, 1, 30] L st M) := zEv_step rfl
theorem e281_62 (ph : Bool) (d : Nat) (L st : List zV) (M : zM) : zEv ph d 281 62 L st M = zcont ph d 281 (zstep ph (zEm ph d) 80 63 0 [0, 1] L st M) := zEv_step rfl
theorem e281_63 (ph : Bool) (d : Nat) (L st : List zV) (M : zM) : zEv ph d 281 63 L st M = zcont ph d 281 (zstep ph (zEm ph d) 4 64 0 [0] L st M) := zEv_step rfl
theorem e281_64 (ph : Bool) (d : Nat) (L st : List zV) (M : zM) : zEv ph d 281 64 L st M = zcont ph d 281 (zstep ph (zEm ph d) 0 65 0 [4] L st M) := zEv_step rfl
theorem e281_65 (ph : Bool) (d : Nat) (L st : List zV) (M : zM) : zEv ph d 281 65 L st M = zcont ph d 281 (zstep ph (zEm ph d) 4 66 0 [0] L st M) := zEv_step rfl
theorem e281_66 (ph : Bool) (d : Nat) (L st : List zV) (M : zM) : zEv ph d 281 66 L st M = zcont ph d 281 (zstep ph (zEm ph d) 60 69 0 [30, 43] L st M) := zEv_step rfl
theorem e281_69 (ph : Bool) (d : Nat) (L st : List zV) (M : zM) : zEv ph d 281 69 L st M = zcont ph d 281 (zstep ph (zEm ph d) 12 70 0 [] L st M) := zEv_step rfl
theorem e281_70 (ph : Bool) (d : Nat) (L st : List zV) (M : zM) : zEv ph d 281 70 L st M = zcont ph d 281 (zstep ph (zEm ph d) 70 73 280 [2, 1, 30] L st M) := zEv_step rfl
theorem e281_73 (ph : Bool) (d : Nat) (L st : List zV) (M : zM) : zEv ph d 281 73 L st M = zcont ph d 281 (zstep ph (zEm ph d) 40 76 87 [] L st M) := zEv_step rfl
theorem e281_76 (ph : Bool) (d : Nat) (L st : List zV) (M : zM) : zEv ph d 281 76 L st M = zcont ph d 281 (zstep ph (zEm ph d) 4 77 0 [0] L st M) := zEv_step rfl
theorem e281_77 (ph : Bool) (d : Nat) (L st : List zV) (M : zM) : zEv ph d 281 77 L st M = zcont ph d 281 (zstep ph (zEm ph d) 70 80 184 [1, 1, 30] L st M) := zEv_step rfl
theorem e281_80 (ph : Bool) (d : Nat) (L st : List zV) (M : zM) : zEv ph d 281 80 L st M = zcont ph d 281 (zstep ph (zEm ph d) 40 83 87 [] L st M) := zEv_step rfl
theorem e281_83 (ph : Bool) (d : Nat) (L st : List zV) (M : zM) : zEv ph d 281 83 L st M = zcont ph d 281 (zstep ph (zEm ph d) 0 84 0 [1] L st M) := zEv_step rfl
theorem e281_84 (ph : Bool) (d : Nat) (L st : List zV) (M : zM) : zEv ph d 281 84 L st M = zcont ph d 281 (zstep ph (zEm ph d) 52 87 88 [] L st M) := zEv_step rfl
theorem e281_87 (ph : Bool) (d : Nat) (L st : List zV) (M : zM) : zEv ph d 281 87 L st M = zcont ph d 281 (zstep ph (zEm ph d) 0 88 0 [0] L st M) := zEv_step rfl
theorem e281_88 (ph : Bool) (d : Nat) (L st : List zV) (M : zM) : zEv ph d 281 88 L st M = zcont ph d 281 (zstep ph (zEm ph d) 80 89 0 [0, 1] L st M) := zEv_step rfl
theorem m280 (ph : Bool) (d : Nat) (a x0 p0 y0 : Int) (M : zM) : zEm ph (d + 1) 280 [(30, a, x0), (0, p0, y0)] M = zEv ph d 280 0 [(30, a, x0), (0, p0, y0), (3, 0, 0)] [] M := rfl
theorem e280_0 (ph : Bool) (d : Nat) (L st : List zV) (M : zM) : zEv ph d 280 0 L st M = zcont ph d 280 (zstep ph (zEm ph d) 4 1 0 [0] L st M) := zEv_step rfl
theorem e280_1 (ph : Bool) (d : Nat) (L st : List zV) (M : zM) : zEv ph d 280 1 L st M = zcont ph d 280 (zstep ph (zEm ph d) 70 4 279 [1, 1, 30] L st M) := zEv_step rfl
theorem e280_4 (ph : Bool) (d : Nat) (L st : List zV) (M : zM) : zEv ph d 280 4 L st M = zcont ph d 280 (zstep ph (zEm ph d) 41 7 43 [] L st M) := zEv_step rfl
theorem e280_7 (ph : Bool) (d : Nat) (L st : List zV) (M : zM) : zEv ph d 280 7 L st M = zcont ph d 280 (zstep ph (zEm ph d) 4 8 0 [0] L st M) := zEv_step rfl
theorem e280_8 (ph : Bool) (d : Nat) (L st : List zV) (M : zM) : zEv ph d 280 8 L st M = zcont ph d 280 (zstep ph (zEm ph d) 62 11 0 [30, 41, 19, 10, 160] L st M) := zEv_step rfl
theorem e280_11 (ph : Bool) (d : Nat) (L st : List zV) (M : zM) : zEv ph d 280 11 L st M = zcont ph d 280 (zstep ph (zEm ph d) 2 12 0 [1] L st M) := zEv_step rfl
theorem e280_12 (ph : Bool) (d : Nat) (L st : List zV) (M : zM) : zEv ph d 280 12 L st M = zcont ph d 280 (zstep ph (zEm ph d) 0 13 0 [1] L st M) := zEv_step rfl
theorem e280_13 (ph : Bool) (d : Nat) (L st : List zV) (M : zM) : zEv ph d 280 13 L st M = zcont ph d 280 (zstep ph (zEm ph d) 10 14 0 [] L st M) := zEv_step rfl
theorem e280_14 (ph : Bool) (d : Nat) (L st : List zV) (M : zM) : zEv ph d 280 14 L st M = zcont ph d 280 (zstep ph (zEm ph d) 4 15 0 [0] L st M) := zEv_step rfl
theorem e280_15 (ph : Bool) (d : Nat) (L st : List zV) (M : zM) : zEv ph d 280 15 L st M = zcont ph d 280 (zstep ph (zEm ph d) 62 18 0 [30, 19, 7, 11, 20] L st M) := zEv_step rfl
theorem e280_18 (ph : Bool) (d : Nat) (L st : List zV) (M : zM) : zEv ph d 280 18 L st M = zcont ph d 280 (zstep ph (zEm ph d) 0 19 0 [5] L st M) := zEv_step rfl
theorem e280_19 (ph : Bool) (d : Nat) (L st : List zV) (M : zM) : zEv ph d 280 19 L st M = zcont ph d 280 (zstep ph (zEm ph d) 4 20 0 [0] L st M) := zEv_step rfl
theorem e280_20 (ph : Bool) (d : Nat) (L st : List zV) (M : zM) : zEv ph d 280 20 L st M = zcont ph d 280 (zstep ph (zEm ph d) 62 23 0 [30, 14, 2, 10, 368] L st M) := zEv_step rfl
theorem e280_23 (ph : Bool) (d : Nat) (L st : List zV) (M : zM) : zEv ph d 280 23 L st M = zcont ph d 280 (zstep ph (zEm ph d) 0 24 0 [1] L st M) := zEv_step rfl
theorem e280_24 (ph : Bool) (d : Nat) (L st : List zV) (M : zM) : zEv ph d 280 24 L st M = zcont ph d 280 (zstep ph (zEm ph d) 85 25 0 [] L st M) := zEv_step rfl
theorem e280_25 (ph : Bool) (d : Nat) (L st : List zV) (M : zM) : zEv ph d 280 25 L st M = zcont ph d 280 (zstep ph (zEm ph d) 4 26 0 [0] L st M) := zEv_step rfl
theorem e280_26 (ph : Bool) (d : Nat) (L st : List zV) (M : zM) : zEv ph d 280 26 L st M = zcont ph d 280 (zstep ph (zEm ph d) 61 29 0 [30, 12] L st M) := zEv_step rfl
theorem e280_29 (ph : Bool) (d : Nat) (L st : List zV) (M : zM) : zEv ph d 280 29 L st M = zcont ph d 280 (zstep ph (zEm ph d) 70 32 188 [4, 1, -1] L st M) := zEv_step rfl
theorem e280_32 (ph : Bool) (d : Nat) (L st : List zV) (M : zM) : zEv ph d 280 32 L st M = zcont ph d 280 (zstep ph (zEm ph d) 89 33 0 [] L st M) := zEv_step rfl
theorem e280_33 (ph : Bool) (d : Nat) (L st : List zV) (M : zM) : zEv ph d 280 33 L st M = zcont ph d 280 (zstep ph (zEm ph d) 4 34 0 [0] L st M) := zEv_step rfl
theorem e280_34 (ph : Bool) (d : Nat) (L st : List zV) (M : zM) : zEv ph d 280 34 L st M = zcont ph d 280 (zstep ph (zEm ph d) 70 37 176 [1, 0, 30] L st M) := zEv_step rfl
theorem e280_37 (ph : Bool) (d : Nat) (L st : List zV) (M : zM) : zEv ph d 280 37 L st M = zcont ph d 280 (zstep ph (zEm ph d) 4 38 0 [0] L st M) := zEv_step rfl
theorem e280_38 (ph : Bool) (d : Nat) (L st : List zV) (M : zM) : zEv ph d 280 38 L st M = zcont ph d 280 (zstep ph (zEm ph d) 2 39 0 [1] L st M) := zEv_step rfl
theorem e280_39 (ph : Bool) (d : Nat) (L st : List zV) (M : zM) : zEv ph d 280 39 L st M = zcont ph d 280 (zstep ph (zEm ph d) 70 42 278 [2, 1, 30] L st M) := zEv_step rfl
theorem e280_42 (ph : Bool) (d : Nat) (L st : List zV) (M : zM) : zEv ph d 280 42 L st M = zcont ph d 280 (zstep ph (zEm ph d) 80 43 0 [0, 1] L st M) := zEv_step rfl
theorem e280_43 (ph : Bool) (d : Nat) (L st : List zV) (M : zM) : zEv ph d 280 43 L st M = zcont ph d 280 (zstep ph (zEm ph d) 0 45 0 [15] L st M) := zEv_step rfl
theorem e280_45 (ph : Bool) (d : Nat) (L st : List zV) (M : zM) : zEv ph d 280 45 L st M = zcont ph d 280 (zstep ph (zEm ph d) 5 46 0 [2] L st M) := zEv_step rfl
theorem e280_46 (ph : Bool) (d : Nat) (L st : List zV) (M : zM) : zEv ph d 280 46 L st M = zcont ph d 280 (zstep ph (zEm ph d) 4 47 0 [0] L st M) := zEv_step rfl
theorem e280_47 (ph : Bool) (d : Nat) (L st : List zV) (M : zM) : zEv ph d 280 47 L st M = zcont ph d 280 (zstep ph (zEm ph d) 2 48 0 [2] L st M) := zEv_step rfl
theorem e280_48 (ph : Bool) (d : Nat) (L st : List zV) (M : zM) : zEv ph d 280 48 L st M = zcont ph d 280 (zstep ph (zEm ph d) 70 51 179 [2, 1, 30] L st M) := zEv_step rfl
theorem e280_51 (ph : Bool) (d : Nat) (L st : List zV) (M : zM) : zEv ph d 280 51 L st M = zcont ph d 280 (zstep ph (zEm ph d) 41 54 60 [] L st M) := zEv_step rfl
theorem e280_54 (ph : Bool) (d : Nat) (L st : List zV) (M : zM) : zEv ph d 280 54 L st M = zcont ph d 280 (zstep ph (zEm ph d) 8 57 0 [2, 1] L st M) := zEv_step rfl
theorem e280_57 (ph : Bool) (d : Nat) (L st : List zV) (M : zM) : zEv ph d 280 57 L st M = zcont ph d 280 (zstep ph (zEm ph d) 52 60 46 [] L st M) := zEv_step rfl
theorem e280_60 (ph : Bool) (d : Nat) (L st : List zV) (M : zM) : zEv ph d 280 60 L st M = zcont ph d 280 (zstep ph (zEm ph d) 4 61 0 [0] L st M) := zEv_step rfl
theorem e280_61 (ph : Bool) (d : Nat) (L st : List zV) (M : zM) : zEv ph d 280 61 L st M = zcont ph d 280 (zstep ph (zEm ph d) 70 64 176 [1, 0, 30] L st M) := zEv_step rfl
theorem e280_64 (ph : Bool) (d : Nat) (L st : List zV) (M : zM) : zEv ph d 280 64 L st M = zcont ph d 280 (zstep ph (zEm ph d) 2 65 0 [2] L st M) := zEv_step rfl
theorem e280_65 (ph : Bool) (d : Nat) (L st : List zV) (M : zM) : zEv ph d 280 65 L st M = zcont ph d 280 (zstep ph (zEm ph d) 0 67 0 [17] L st M) := zEv_step rfl
theorem e280_67 (ph : Bool) (d : Nat) (L st : List zV) (M : zM) : zEv ph d 280 67 L st M = zcont ph d 280 (zstep ph (zEm ph d) 48 70 98 [] L st M) := zEv_step rfl
theorem e280_70 (ph : Bool) (d : Nat) (L st : List zV) (M : zM) : zEv ph d 280 70 L st M = zcont ph d 280 (zstep ph (zEm ph d) 2 71 0 [2] L st M) := zEv_step rfl
theorem e280_71 (ph : Bool) (d : Nat) (L st : List zV) (M : zM) : zEv ph d 280 71 L st M = zcont ph d 280 (zstep ph (zEm ph d) 0 73 0 [19] L st M) := zEv_step rfl
theorem e280_73 (ph : Bool) (d : Nat) (L st : List zV) (M : zM) : zEv ph d 280 73 L st M = zcont ph d 280 (zstep ph (zEm ph d) 50 76 98 [] L st M) := zEv_step rfl
theorem e280_76 (ph : Bool) (d : Nat) (L st : List zV) (M : zM) : zEv ph d 280 76 L st M = zcont ph d 280 (zstep ph (zEm ph d) 4 77 0 [0] L st M) := zEv_step rfl
theorem e280_77 (ph : Bool) (d : Nat) (L st : List zV) (M : zM) : zEv ph d 280 77 L st M = zcont ph d 280 (zstep ph (zEm ph d) 62 80 0 [30, 41, 19, 10, 160] L st M) := zEv_step rfl
theorem e280_80 (ph : Bool) (d : Nat) (L st : List zV) (M : zM) : zEv ph d 280 80 L st M = zcont ph d 280 (zstep ph (zEm ph d) 2 81 0 [1] L st M) := zEv_step rfl
theorem e280_81 (ph : Bool) (d : Nat) (L st : List zV) (M : zM) : zEv ph d 280 81 L st M = zcont ph d 280 (zstep ph (zEm ph d) 0 83 0 [6] L st M) := zEv_step rfl
theorem e280_83 (ph : Bool) (d : Nat) (L st : List zV) (M : zM) : zEv ph d 280 83 L st M = zcont ph d 280 (zstep ph (zEm ph d) 89 84 0 [] L st M) := zEv_step rfl
theorem e280_84 (ph : Bool) (d : Nat) (L st : List zV) (M : zM) : zEv ph d 280 84 L st M = zcont ph d 280 (zstep ph (zEm ph d) 4 85 0 [0] L st M) := zEv_step rfl
theorem e280_85 (ph : Bool) (d : Nat) (L st : List zV) (M : zM) : zEv ph d 280 85 L st M = zcont ph d 280 (zstep ph (zEm ph d) 62 88 0 [30, 41, 19, 10, 160] L st M) := zEv_step rfl
theorem e280_88 (ph : Bool) (d : Nat) (L st : List zV) (M : zM) : zEv ph d 280 88 L st M = zcont ph d 280 (zstep ph (zEm ph d) 2 89 0 [1] L st M) := zEv_step rfl
theorem e280_89 (ph : Bool) (d : Nat) (L st : List zV) (M : zM) : zEv ph d 280 89 L st M = zcont ph d 280 (zstep ph (zEm ph d) 0 90 0 [1] L st M) := zEv_step rfl
theorem e280_90 (ph : Bool) (d : Nat) (L st : List zV) (M : zM) : zEv ph d 280 90 L st M = zcont ph d 280 (zstep ph (zEm ph d) 10 91 0 [] L st M) := zEv_step rfl
theorem e280_91 (ph : Bool) (d : Nat) (L st : List zV) (M : zM) : zEv ph d 280 91 L st M = zcont ph d 280 (zstep ph (zEm ph d) 2 92 0 [2] L st M) := zEv_step rfl
theorem e280_92 (ph : Bool) (d : Nat) (L st : List zV) (M : zM) : zEv ph d 280 92 L st M = zcont ph d 280 (zstep ph (zEm ph d) 0 94 0 [17] L st M) := zEv_step rfl
theorem e280_94 (ph : Bool) (d : Nat) (L st : List zV) (M : zM) : zEv ph d 280 94 L st M = zcont ph d 280 (zstep ph (zEm ph d) 11 95 0 [] L st M) := zEv_step rfl
theorem e280_95 (ph : Bool) (d : Nat) (L st : List zV) (M : zM) : zEv ph d 280 95 L st M = zcont ph d 280 (zstep ph (zEm ph d) 89 96 0 [] L st M) := zEv_step rfl
theorem e280_96 (ph : Bool) (d : Nat) (L st : List zV) (M : zM) : zEv ph d 280 96 L st M = zcont ph d 280 (zstep ph (zEm ph d) 0 97 0 [1] L st M) := zEv_step rfl
theorem e280_97 (ph : Bool) (d : Nat) (L st : List zV) (M : zM) : zEv ph d 280 97 L st M = zcont ph d 280 (zstep ph (zEm ph d) 80 98 0 [0, 1] L st M) := zEv_step rfl
theorem e280_98 (ph : Bool) (d : Nat) (L st : List zV) (M : zM) : zEv ph d 280 98 L st M = zcont ph d 280 (zstep ph (zEm ph d) 4 99 0 [0] L st M) := zEv_step rfl
theorem e280_99 (ph : Bool) (d : Nat) (L st : List zV) (M : zM) : zEv ph d 280 99 L st M = zcont ph d 280 (zstep ph (zEm ph d) 62 102 0 [30, 41, 19, 10, 160] L st M) := zEv_step rfl
theorem e280_102 (ph : Bool) (d : Nat) (L st : List zV) (M : zM) : zEv ph d 280 102 L st M = zcont ph d 280 (zstep ph (zEm ph d) 2 103 0 [1] L st M) := zEv_step rfl
theorem e280_103 (ph : Bool) (d : Nat) (L st : List zV) (M : zM) : zEv ph d 280 103 L st M = zcont ph d 280 (zstep ph (zEm ph d) 2 104 0 [2] L st M) := zEv_step rfl
theorem e280_104 (ph : Bool) (d : Nat) (L st : List zV) (M : zM) : zEv ph d 280 104 L st M = zcont ph d 280 (zstep ph (zEm ph d) 0 106 0 [15] L st M) := zEv_step rfl
theorem e280_106 (ph : Bool) (d : Nat) (L st : List zV) (M : zM) : zEv ph d 280 106 L st M = zcont ph d 280 (zstep ph (zEm ph d) 47 109 113 [] L st M) := zEv_step rfl
theorem e280_109 (ph : Bool) (d : Nat) (L st : List zV) (M : zM) : zEv ph d 280 109 L st M = zcont ph d 280 (zstep ph (zEm ph d) 0 110 0 [4] L st M) := zEv_step rfl
theorem e280_110 (ph : Bool) (d : Nat) (L st : List zV) (M : zM) : zEv ph d 280 110 L st M = zcont ph d 280 (zstep ph (zEm ph d) 52 113 125 [] L st M) := zEv_step rfl
theorem e280_113 (ph : Bool) (d : Nat) (L st : List zV) (M : zM) : zEv ph d 280 113 L st M = zcont ph d 280 (zstep ph (zEm ph d) 2 114 0 [2] L st M) := zEv_step rfl
theorem e280_114 (ph : Bool) (d : Nat) (L st : List zV) (M : zM) : zEv ph d 280 114 L st M = zcont ph d 280 (zstep ph (zEm ph d) 0 116 0 [16] L st M) := zEv_step rfl
theorem e280_116 (ph : Bool) (d : Nat) (L st : List zV) (M : zM) : zEv ph d 280 116 L st M = zcont ph d 280 (zstep ph (zEm ph d) 47 119 123 [] L st M) := zEv_step rfl
theorem e280_119 (ph : Bool) (d : Nat) (L st : List zV) (M : zM) : zEv ph d 280 119 L st M = zcont ph d 280 (zstep ph (zEm ph d) 0 120 0 [5] L st M) := zEv_step rfl
theorem e280_120 (ph : Bool) (d : Nat) (L st : List zV) (M : zM) : zEv ph d 280 120 L st M = zcont ph d 280 (zstep ph (zEm ph d) 52 123 125 [] L st M) := zEv_step rfl
theorem e280_123 (ph : Bool) (d : Nat) (L st : List zV) (M : zM) : zEv ph d 280 123 L st M = zcont ph d 280 (zstep ph (zEm ph d) 0 125 0 [7] L st M) := zEv_step rfl
theorem e280_125 (ph : Bool) (d : Nat) (L st : List zV) (M : zM) : zEv ph d 280 125 L st M = zcont ph d 280 (zstep ph (zEm ph d) 89 126 0 [] L st M) := zEv_step rfl
theorem e280_126 (ph : Bool) (d : Nat) (L st : List zV) (M : zM) : zEv ph d 280 126 L st M = zcont ph d 280 (zstep ph (zEm ph d) 2 127 0 [2] L st M) := zEv_step rfl
theorem e280_127 (ph : Bool) (d : Nat) (L st : List zV) (M : zM) : zEv ph d 280 127 L st M = zcont ph d 280 (zstep ph (zEm ph d) 0 129 0 [15] L st M) := zEv_step rfl
theorem e280_129 (ph : Bool) (d : Nat) (L st : List zV) (M : zM) : zEv ph d 280 129 L st M = zcont ph d 280 (zstep ph (zEm ph d) 47 132 152 [] L st M) := zEv_step rfl
theorem e280_132 (ph : Bool) (d : Nat) (L st : List zV) (M : zM) : zEv ph d 280 132 L st M = zcont ph d 280 (zstep ph (zEm ph d) 4 133 0 [0] L st M) := zEv_step rfl
theorem e280_133 (ph : Bool) (d : Nat) (L st : List zV) (M : zM) : zEv ph d 280 133 L st M = zcont ph d 280 (zstep ph (zEm ph d) 2 134 0 [1] L st M) := zEv_step rfl
theorem e280_134 (ph : Bool) (d : Nat) (L st : List zV) (M : zM) : zEv ph d 280 134 L st M = zcont ph d 280 (zstep ph (zEm ph d) 0 135 0 [1] L st M) := zEv_step rfl
theorem e280_135 (ph : Bool) (d : Nat) (L st : List zV) (M : zM) : zEv ph d 280 135 L st M = zcont ph d 280 (zstep ph (zEm ph d) 10 136 0 [] L st M) := zEv_step rfl
theorem e280_136 (ph : Bool) (d : Nat) (L st : List zV) (M : zM) : zEv ph d 280 136 L st M = zcont ph d 280 (zstep ph (zEm ph d) 4 137 0 [0] L st M) := zEv_step rfl
theorem e280_137 (ph : Bool) (d : Nat) (L st : List zV) (M : zM) : zEv ph d 280 137 L st M = zcont ph d 280 (zstep ph (zEm ph d) 0 139 0 [15] L st M) := zEv_step rfl
theorem e280_139 (ph : Bool) (d : Nat) (L st : List zV) (M : zM) : zEv ph d 280 139 L st M = zcont ph d 280 (zstep ph (zEm ph d) 4 140 0 [0] L st M) := zEv_step rfl
theorem e280_140 (ph : Bool) (d : Nat) (L st : List zV) (M : zM) : zEv ph d 280 140 L st M = zcont ph d 280 (zstep ph (zEm ph d) 62 143 0 [30, 14, 2, 10, 368] L st M) := zEv_step rfl
theorem e280_143 (ph : Bool) (d : Nat) (L st : List zV) (M : zM) : zEv ph d 280 143 L st M = zcont ph d 280 (zstep ph (zEm ph d) 0 144 0 [2] L st M) := zEv_step rfl
theorem e280_144 (ph : Bool) (d : Nat) (L st : List zV) (M : zM) : zEv ph d 280 144 L st M = zcont ph d 280 (zstep ph (zEm ph d) 85 145 0 [] L st M) := zEv_step rfl
theorem e280_145 (ph : Bool) (d : Nat) (L st : List zV) (M : zM) : zEv ph d 280 145 L st M = zcont ph d 280 (zstep ph (zEm ph d) 70 148 275 [3, 1, 30] L st M) := zEv_step rfl
theorem e280_148 (ph : Bool) (d : Nat) (L st : List zV) (M : zM) : zEv ph d 280 148 L st M = zcont ph d 280 (zstep ph (zEm ph d) 70 151 276 [3, 1, 30] L st M) := zEv_step rfl
theorem e280_151 (ph : Bool) (d : Nat) (L st : List zV) (M : zM) : zEv ph d 280 151 L st M = zcont ph d 280 (zstep ph (zEm ph d) 80 152 0 [0, 1] L st M) := zEv_step rfl
theorem e280_152 (ph : Bool) (d : Nat) (L st : List zV) (M : zM) : zEv ph d 280 152 L st M = zcont ph d 280 (zstep ph (zEm ph d) 2 153 0 [2] L st M) := zEv_step rfl
theorem e280_153 (ph : Bool) (d : Nat) (L st : List zV) (M : zM) : zEv ph d 280 153 L st M = zcont ph d 280 (zstep ph (zEm ph d) 0 155 0 [20] L st M) := zEv_step rfl
theorem e280_155 (ph : Bool) (d : Nat) (L st : List zV) (M : zM) : zEv ph d 280 155 L st M = zcont ph d 280 (zstep ph (zEm ph d) 47 158 173 [] L st M) := zEv_step rfl
theorem e280_158 (ph : Bool) (d : Nat) (L st : List zV) (M : zM) : zEv ph d 280 158 L st M = zcont ph d 280 (zstep ph (zEm ph d) 4 159 0 [0] L st M) := zEv_step rfl
theorem e280_159 (ph : Bool) (d : Nat) (L st : List zV) (M : zM) : zEv ph d 280 159 L st M = zcont ph d 280 (zstep ph (zEm ph d) 2 160 0 [1] L st M) := zEv_step rfl
theorem e280_160 (ph : Bool) (d : Nat) (L st : List zV) (M : zM) : zEv ph d 280 160 L st M = zcont ph d 280 (zstep ph (zEm ph d) 0 161 0 [1] L st M) := zEv_step rfl
theorem e280_161 (ph : Bool) (d : Nat) (L st : List zV) (M : zM) : zEv ph d 280 161 L st M = zcont ph d 280 (zstep ph (zEm ph d) 10 162 0 [] L st M) := zEv_step rfl
theorem e280_162 (ph : Bool) (d : Nat) (L st : List zV) (M : zM) : zEv ph d 280 162 L st M = zcont ph d 280 (zstep ph (zEm ph d) 4 163 0 [0] L st M) := zEv_step rfl
theorem e280_163 (ph : Bool) (d : Nat) (L st : List zV) (M : zM) : zEv ph d 280 163 L st M = zcont ph d 280 (zstep ph (zEm ph d) 0 164 0 [1] L st M) := zEv_step rfl
theorem e280_164 (ph : Bool) (d : Nat) (L st : List zV) (M : zM) : zEv ph d 280 164 L st M = zcont ph d 280 (zstep ph (zEm ph d) 0 166 0 [60] L st M) := zEv_step rfl
theorem e280_166 (ph : Bool) (d : Nat) (L st : List zV) (M : zM) : zEv ph d 280 166 L st M = zcont ph d 280 (zstep ph (zEm ph d) 70 169 183 [3, 1, 30] L st M) := zEv_step rfl
theorem e280_169 (ph : Bool) (d : Nat) (L st : List zV) (M : zM) : zEv ph d 280 169 L st M = zcont ph d 280 (zstep ph (zEm ph d) 70 172 276 [3, 1, 30] L st M) := zEv_step rfl
theorem e280_172 (ph : Bool) (d : Nat) (L st : List zV) (M : zM) : zEv ph d 280 172 L st M = zcont ph d 280 (zstep ph (zEm ph d) 80 173 0 [0, 1] L st M) := zEv_step rfl
theorem e280_173 (ph : Bool) (d : Nat) (L st : List zV) (M : zM) : zEv ph d 280 173 L st M = zcont ph d 280 (zstep ph (zEm ph d) 4 174 0 [0] L st M) := zEv_step rfl
theorem e280_174 (ph : Bool) (d : Nat) (L st : List zV) (M : zM) : zEv ph d 280 174 L st M = zcont ph d 280 (zstep ph (zEm ph d) 2 175 0 [1] L st M) := zEv_step rfl
theorem e280_175 (ph : Bool) (d : Nat) (L st : List zV) (M : zM) : zEv ph d 280 175 L st M = zcont ph d 280 (zstep ph (zEm ph d) 0 176 0 [1] L st M) := zEv_step rfl
theorem e280_176 (ph : Bool) (d : Nat) (L st : List zV) (M : zM) : zEv ph d 280 176 L st M = zcont ph d 280 (zstep ph (zEm ph d) 10 177 0 [] L st M) := zEv_step rfl
theorem e280_177 (ph : Bool) (d : Nat) (L st : List zV) (M : zM) : zEv ph d 280 177 L st M = zcont ph d 280 (zstep ph (zEm ph d) 70 180 277 [2, 1, 30] L st M) := zEv_step rfl
theorem e280_180 (ph : Bool) (d : Nat) (L st : List zV) (M : zM) : zEv ph d 280 180 L st M = zcont ph d 280 (zstep ph (zEm ph d) 40 183 204 [] L st M) := zEv_step rfl
theorem e280_183 (ph : Bool) (d : Nat) (L st : List zV) (M : zM) : zEv ph d 280 183 L st M = zcont ph d 280 (zstep ph (zEm ph d) 4 184 0 [0] L st M) := zEv_step rfl
theorem e280_184 (ph : Bool) (d : Nat) (L st : List zV) (M : zM) : zEv ph d 280 184 L st M = zcont ph d 280 (zstep ph (zEm ph d) 2 185 0 [1] L st M) := zEv_step rfl
theorem e280_185 (ph : Bool) (d : Nat) (L st : List zV) (M : zM) : zEv ph d 280 185 L st M = zcont ph d 280 (zstep ph (zEm ph d) 0 186 0 [2] L st M) := zEv_step rfl
theorem e280_186 (ph : Bool) (d : Nat) (L st : List zV) (M : zM) : zEv ph d 280 186 L st M = zcont ph d 280 (zstep ph (zEm ph d) 10 187 0 [] L st M) := zEv_step rfl
theorem e280_187 (ph : Bool) (d : Nat) (L st : List zV) (M : zM) : zEv ph d 280 187 L st M = zcont ph d 280 (zstep ph (zEm ph d) 4 188 0 [0] L st M) := zEv_step rfl
theorem e280_188 (ph : Bool) (d : Nat) (L st : List zV) (M : zM) : zEv ph d 280 188 L st M = zcont ph d 280 (zstep ph (zEm ph d) 0 189 0 [0] L st M) := zEv_step rfl
theorem e280_189 (ph : Bool) (d : Nat) (L st : List zV) (M : zM) : zEv ph d 280 189 L st M = zcont ph d 280 (zstep ph (zEm ph d) 0 191 0 [20] L st M) := zEv_step rfl
theorem e280_191 (ph : Bool) (d : Nat) (L st : List zV) (M : zM) : zEv ph d 280 191 L st M = zcont ph d 280 (zstep ph (zEm ph d) 70 194 183 [3, 1, 30] L st M) := zEv_step rfl
theorem e280_194 (ph : Bool) (d : Nat) (L st : List zV) (M : zM) : zEv ph d 280 194 L st M = zcont ph d 280 (zstep ph (zEm ph d) 70 197 276 [3, 1, 30] L st M) := zEv_step rfl
theorem e280_197 (ph : Bool) (d : Nat) (L st : List zV) (M : zM) : zEv ph d 280 197 L st M = zcont ph d 280 (zstep ph (zEm ph d) 40 200 204 [] L st M) := zEv_step rfl
theorem e280_200 (ph : Bool) (d : Nat) (L st : List zV) (M : zM) : zEv ph d 280 200 L st M = zcont ph d 280 (zstep ph (zEm ph d) 0 201 0 [1] L st M) := zEv_step rfl
theorem e280_201 (ph : Bool) (d : Nat) (L st : List zV) (M : zM) : zEv ph d 280 201 L st M = zcont ph d 280 (zstep ph (zEm ph d) 52 204 205 [] L st M) := zEv_step rfl
theorem e280_204 (ph : Bool) (d : Nat) (L st : List zV) (M : zM) : zEv ph d 280 204 L st M = zcont ph d 280 (zstep ph (zEm ph d) 0 205 0 [0] L st M) := zEv_step rfl
theorem e280_205 (ph : Bool) (d : Nat) (L st : List zV) (M : zM) : zEv ph d 280 205 L st M = zcont ph d 280 (zstep ph (zEm ph d) 80 206 0 [0, 1] L st M) := zEv_step rfl
theorem m278 (ph : Bool) (d : Nat) (a x0 p0 y0 : Int) (M : zM) : zEm ph (d + 1) 278 [(30, a, x0), (0, p0, y0)] M = zEv ph d 278 0 [(30, a, x0), (0, p0, y0), (3, 0, 0)] [] M := rfl
theorem e278_0 (ph : Bool) (d : Nat) (L st : List zV) (M : zM) : zEv ph d 278 0 L st M = zcont ph d 278 (zstep ph (zEm ph d) 4 1 0 [0] L st M) := zEv_step rfl
theorem e278_1 (ph : Bool) (d : Nat) (L st : List zV) (M : zM) : zEv ph d 278 1 L st M = zcont ph d 278 (zstep ph (zEm ph d) 0 3 0 [11] L st M) := zEv_step rfl
theorem e278_3 (ph : Bool) (d : Nat) (L st : List zV) (M : zM) : zEv ph d 278 3 L st M = zcont ph d 278 (zstep ph (zEm ph d) 70 6 179 [2, 1, 30] L st M) := zEv_step rfl
theorem e278_6 (ph : Bool) (d : Nat) (L st : List zV) (M : zM) : zEv ph d 278 6 L st M = zcont ph d 278 (zstep ph (zEm ph d) 40 9 13 [] L st M) := zEv_step rfl
theorem e278_9 (ph : Bool) (d : Nat) (L st : List zV) (M : zM) : zEv ph d 278 9 L st M = zcont ph d 278 (zstep ph (zEm ph d) 0 10 0 [0] L st M) := zEv_step rfl
theorem e278_10 (ph : Bool) (d : Nat) (L st : List zV) (M : zM) : zEv ph d 278 10 L st M = zcont ph d 278 (zstep ph (zEm ph d) 52 13 53 [] L st M) := zEv_step rfl
theorem e278_13 (ph : Bool) (d : Nat) (L st : List zV) (M : zM) : zEv ph d 278 13 L st M = zcont ph d 278 (zstep ph (zEm ph d) 4 14 0 [0] L st M) := zEv_step rfl
theorem e278_14 (ph : Bool) (d : Nat) (L st : List zV) (M : zM) : zEv ph d 278 14 L st M = zcont ph d 278 (zstep ph (zEm ph d) 0 16 0 [12] L st M) := zEv_step rfl
theorem e278_16 (ph : Bool) (d : Nat) (L st : List zV) (M : zM) : zEv ph d 278 16 L st M = zcont ph d 278 (zstep ph (zEm ph d) 70 19 179 [2, 1, 30] L st M) := zEv_step rfl
theorem e278_19 (ph : Bool) (d : Nat) (L st : List zV) (M : zM) : zEv ph d 278 19 L st M = zcont ph d 278 (zstep ph (zEm ph d) 40 22 26 [] L st M) := zEv_step rfl
theorem e278_22 (ph : Bool) (d : Nat) (L st : List zV) (M : zM) : zEv ph d 278 22 L st M = zcont ph d 278 (zstep ph (zEm ph d) 0 23 0 [1] L st M) := zEv_step rfl
theorem e278_23 (ph : Bool) (d : Nat) (L st : List zV) (M : zM) : zEv ph d 278 23 L st M = zcont ph d 278 (zstep ph (zEm ph d) 52 26 53 [] L st M) := zEv_step rfl
theorem e278_26 (ph : Bool) (d : Nat) (L st : List zV) (M : zM) : zEv ph d 278 26 L st M = zcont ph d 278 (zstep ph (zEm ph d) 4 27 0 [0] L st M) := zEv_step rfl
theorem e278_27 (ph : Bool) (d : Nat) (L st : List zV) (M : zM) : zEv ph d 278 27 L st M = zcont ph d 278 (zstep ph (zEm ph d) 0 29 0 [13] L st M) := zEv_step rfl
theorem e278_29 (ph : Bool) (d : Nat) (L st : List zV) (M : zM) : zEv ph d 278 29 L st M = zcont ph d 278 (zstep ph (zEm ph d) 70 32 179 [2, 1, 30] L st M) := zEv_step rfl
theorem e278_32 (ph : Bool) (d : Nat) (L st : List zV) (M : zM) : zEv ph d 278 32 L st M = zcont ph d 278 (zstep ph (zEm ph d) 40 35 39 [] L st M) := zEv_step rfl
theorem e278_35 (ph : Bool) (d : Nat) (L st : List zV) (M : zM) : zEv ph d 278 35 L st M = zcont ph d 278 (zstep ph (zEm ph d) 0 36 0 [2] L st M) := zEv_step rfl
theorem e278_36 (ph : Bool) (d : Nat) (L st : List zV) (M : zM) : zEv ph d 278 36 L st M = zcont ph d 278 (zstep ph (zEm ph d) 52 39 53 [] L st M) := zEv_step rfl
theorem e278_39 (ph : Bool) (d : Nat) (L st : List zV) (M : zM) : zEv ph d 278 39 L st M = zcont ph d 278 (zstep ph (zEm ph d) 4 40 0 [0] L st M) := zEv_step rfl
theorem e278_40 (ph : Bool) (d : Nat) (L st : List zV) (M : zM) : zEv ph d 278 40 L st M = zcont ph d 278 (zstep ph (zEm ph d) 0 42 0 [14] L st M) := zEv_step rfl
theorem e278_42 (ph : Bool) (d : Nat) (L st : List zV) (M : zM) : zEv ph d 278 42 L st M = zcont ph d 278 (zstep ph (zEm ph d) 70 45 179 [2, 1, 30] L st M) := zEv_step rfl
theorem e278_45 (ph : Bool) (d : Nat) (L st : List zV) (M : zM) : zEv ph d 278 45 L st M = zcont ph d 278 (zstep ph (zEm ph d) 40 48 52 [] L st M) := zEv_step rfl
theorem e278_48 (ph : Bool) (d : Nat) (L st : List zV) (M : zM) : zEv ph d 278 48 L st M = zcont ph d 278 (zstep ph (zEm ph d) 0 49 0 [3] L st M) := zEv_step rfl
theorem e278_49 (ph : Bool) (d : Nat) (L st : List zV) (M : zM) : zEv ph d 278 49 L st M = zcont ph d 278 (zstep ph (zEm ph d) 52 52 53 [] L st M) := zEv_step rfl
theorem e278_52 (ph : Bool) (d : Nat) (L st : List zV) (M : zM) : zEv ph d 278 52 L st M = zcont ph d 278 (zstep ph (zEm ph d) 0 53 0 [-1] L st M) := zEv_step rfl
theorem e278_53 (ph : Bool) (d : Nat) (L st : List zV) (M : zM) : zEv ph d 278 53 L st M = zcont ph d 278 (zstep ph (zEm ph d) 5 54 0 [2] L st M) := zEv_step rfl
theorem e278_54 (ph : Bool) (d : Nat) (L st : List zV) (M : zM) : zEv ph d 278 54 L st M = zcont ph d 278 (zstep ph (zEm ph d) 2 55 0 [2] L st M) := zEv_step rfl
theorem e278_55 (ph : Bool) (d : Nat) (L st : List zV) (M : zM) : zEv ph d 278 55 L st M = zcont ph d 278 (zstep ph (zEm ph d) 0 56 0 [-1] L st M) := zEv_step rfl
theorem e278_56 (ph : Bool) (d : Nat) (L st : List zV) (M : zM) : zEv ph d 278 56 L st M = zcont ph d 278 (zstep ph (zEm ph d) 47 59 65 [] L st M) := zEv_step rfl
theorem e278_59 (ph : Bool) (d : Nat) (L st : List zV) (M : zM) : zEv ph d 278 59 L st M = zcont ph d 278 (zstep ph (zEm ph d) 4 60 0 [0] L st M) := zEv_step rfl
theorem e278_60 (ph : Bool) (d : Nat) (L st : List zV) (M : zM) : zEv ph d 278 60 L st M = zcont ph d 278 (zstep ph (zEm ph d) 0 61 0 [1] L st M) := zEv_step rfl
theorem e278_61 (ph : Bool) (d : Nat) (L st : List zV) (M : zM) : zEv ph d 278 61 L st M = zcont ph d 278 (zstep ph (zEm ph d) 70 64 182 [2, 1, 30] L st M) := zEv_step rfl
theorem e278_64 (ph : Bool) (d : Nat) (L st : List zV) (M : zM) : zEv ph d 278 64 L st M = zcont ph d 278 (zstep ph (zEm ph d) 80 65 0 [0, 1] L st M) := zEv_step rfl
theorem e278_65 (ph : Bool) (d : Nat) (L st : List zV) (M : zM) : zEv ph d 278 65 L st M = zcont ph d 278 (zstep ph (zEm ph d) 4 66 0 [0] L st M) := zEv_step rfl
theorem e278_66 (ph : Bool) (d : Nat) (L st : List zV) (M : zM) : zEv ph d 278 66 L st M = zcont ph d 278 (zstep ph (zEm ph d) 62 69 0 [30, 41, 19, 10, 160] L st M) := zEv_step rfl
theorem e278_69 (ph : Bool) (d : Nat) (L st : List zV) (M : zM) : zEv ph d 278 69 L st M = zcont ph d 278 (zstep ph (zEm ph d) 2 70 0 [1] L st M) := zEv_step rfl
theorem e278_70 (ph : Bool) (d : Nat) (L st : List zV) (M : zM) : zEv ph d 278 70 L st M = zcont ph d 278 (zstep ph (zEm ph d) 2 71 0 [2] L st M) := zEv_step rfl
theorem e278_71 (ph : Bool) (d : Nat) (L st : List zV) (M : zM) : zEv ph d 278 71 L st M = zcont ph d 278 (zstep ph (zEm ph d) 89 72 0 [] L st M) := zEv_step rfl
theorem e278_72 (ph : Bool) (d : Nat) (L st : List zV) (M : zM) : zEv ph d 278 72 L st M = zcont ph d 278 (zstep ph (zEm ph d) 4 73 0 [0] L st M) := zEv_step rfl
theorem e278_73 (ph : Bool) (d : Nat) (L st : List zV) (M : zM) : zEv ph d 278 73 L st M = zcont ph d 278 (zstep ph (zEm ph d) 70 76 176 [1, 0, 30] L st M) := zEv_step rfl
theorem e278_76 (ph : Bool) (d : Nat) (L st : List zV) (M : zM) : zEv ph d 278 76 L st M = zcont ph d 278 (zstep ph (zEm ph d) 2 77 0 [2] L st M) := zEv_step rfl
theorem e278_77 (ph : Bool) (d : Nat) (L st : List zV) (M : zM) : zEv ph d 278 77 L st M = zcont ph d 278 (zstep ph (zEm ph d) 41 80 95 [] L st M) := zEv_step rfl
theorem e278_80 (ph : Bool) (d : Nat) (L st : List zV) (M : zM) : zEv ph d 278 80 L st M = zcont ph d 278 (zstep ph (zEm ph d) 4 81 0 [0] L st M) := zEv_step rfl
theorem e278_81 (ph : Bool) (d : Nat) (L st : List zV) (M : zM) : zEv ph d 278 81 L st M = zcont ph d 278 (zstep ph (zEm ph d) 2 82 0 [1] L st M) := zEv_step rfl
theorem e278_82 (ph : Bool) (d : Nat) (L st : List zV) (M : zM) : zEv ph d 278 82 L st M = zcont ph d 278 (zstep ph (zEm ph d) 0 83 0 [2] L st M) := zEv_step rfl
theorem e278_83 (ph : Bool) (d : Nat) (L st : List zV) (M : zM) : zEv ph d 278 83 L st M = zcont ph d 278 (zstep ph (zEm ph d) 10 84 0 [] L st M) := zEv_step rfl
theorem e278_84 (ph : Bool) (d : Nat) (L st : List zV) (M : zM) : zEv ph d 278 84 L st M = zcont ph d 278 (zstep ph (zEm ph d) 4 85 0 [0] L st M) := zEv_step rfl
theorem e278_85 (ph : Bool) (d : Nat) (L st : List zV) (M : zM) : zEv ph d 278 85 L st M = zcont ph d 278 (zstep ph (zEm ph d) 0 86 0 [1] L st M) := zEv_step rfl
theorem e278_86 (ph : Bool) (d : Nat) (L st : List zV) (M : zM) : zEv ph d 278 86 L st M = zcont ph d 278 (zstep ph (zEm ph d) 0 88 0 [20] L st M) := zEv_step rfl
theorem e278_88 (ph : Bool) (d : Nat) (L st : List zV) (M : zM) : zEv ph d 278 88 L st M = zcont ph d 278 (zstep ph (zEm ph d) 70 91 183 [3, 1, 30] L st M) := zEv_step rfl
theorem e278_91 (ph : Bool) (d : Nat) (L st : List zV) (M : zM) : zEv ph d 278 91 L st M = zcont ph d 278 (zstep ph (zEm ph d) 70 94 276 [3, 1, 30] L st M) := zEv_step rfl
theorem e278_94 (ph : Bool) (d : Nat) (L st : List zV) (M : zM) : zEv ph d 278 94 L st M = zcont ph d 278 (zstep ph (zEm ph d) 80 95 0 [0, 1] L st M) := zEv_step rfl
theorem e278_95 (ph : Bool) (d : Nat) (L st : List zV) (M : zM) : zEv ph d 278 95 L st M = zcont ph d 278 (zstep ph (zEm ph d) 2 96 0 [2] L st M) := zEv_step rfl
theorem e278_96 (ph : Bool) (d : Nat) (L st : List zV) (M : zM) : zEv ph d 278 96 L st M = zcont ph d 278 (zstep ph (zEm ph d) 0 97 0 [3] L st M) := zEv_step rfl
theorem e278_97 (ph : Bool) (d : Nat) (L st : List zV) (M : zM) : zEv ph d 278 97 L st M = zcont ph d 278 (zstep ph (zEm ph d) 46 100 102 [] L st M) := zEv_step rfl
theorem e278_100 (ph : Bool) (d : Nat) (L st : List zV) (M : zM) : zEv ph d 278 100 L st M = zcont ph d 278 (zstep ph (zEm ph d) 0 101 0 [1] L st M) := zEv_step rfl
theorem e278_101 (ph : Bool) (d : Nat) (L st : List zV) (M : zM) : zEv ph d 278 101 L st M = zcont ph d 278 (zstep ph (zEm ph d) 80 102 0 [0, 1] L st M) := zEv_step rfl
theorem e278_102 (ph : Bool) (d : Nat) (L st : List zV) (M : zM) : zEv ph d 278 102 L st M = zcont ph d 278 (zstep ph (zEm ph d) 4 103 0 [0] L st M) := zEv_step rfl
theorem e278_103 (ph : Bool) (d : Nat) (L st : List zV) (M : zM) : zEv ph d 278 103 L st M = zcont ph d 278 (zstep ph (zEm ph d) 2 104 0 [1] L st M) := zEv_step rfl
theorem e278_104 (ph : Bool) (d : Nat) (L st : List zV) (M : zM) : zEv ph d 278 104 L st M = zcont ph d 278 (zstep ph (zEm ph d) 0 105 0 [2] L st M) := zEv_step rfl
theorem e278_105 (ph : Bool) (d : Nat) (L st : List zV) (M : zM) : zEv ph d 278 105 L st M = zcont ph d 278 (zstep ph (zEm ph d) 10 106 0 [] L st M) := zEv_step rfl
theorem e278_106 (ph : Bool) (d : Nat) (L st : List zV) (M : zM) : zEv ph d 278 106 L st M = zcont ph d 278 (zstep ph (zEm ph d) 4 107 0 [0] L st M) := zEv_step rfl
theorem e278_107 (ph : Bool) (d : Nat) (L st : List zV) (M : zM) : zEv ph d 278 107 L st M = zcont ph d 278 (zstep ph (zEm ph d) 0 109 0 [15] L st M) := zEv_step rfl
theorem e278_109 (ph : Bool) (d : Nat) (L st : List zV) (M : zM) : zEv ph d 278 109 L st M = zcont ph d 278 (zstep ph (zEm ph d) 4 110 0 [0] L st M) := zEv_step rfl
theorem e278_110 (ph : Bool) (d : Nat) (L st : List zV) (M : zM) : zEv ph d 278 110 L st M = zcont ph d 278 (zstep ph (zEm ph d) 62 113 0 [30, 14, 2, 10, 368] L st M) := zEv_step rfl
theorem e278_113 (ph : Bool) (d : Nat) (L st : List zV) (M : zM) : zEv ph d 278 113 L st M = zcont ph d 278 (zstep ph (zEm ph d) 0 114 0 [2] L st M) := zEv_step rfl
theorem e278_114 (ph : Bool) (d : Nat) (L st : List zV) (M : zM) : zEv ph d 278 114 L st M = zcont ph d 278 (zstep ph (zEm ph d) 85 115 0 [] L st M) := zEv_step rfl
theorem e278_115 (ph : Bool) (d : Nat) (L st : List zV) (M : zM) : zEv ph d 278 115 L st M = zcont ph d 278 (zstep ph (zEm ph d) 70 118 275 [3, 1, 30] L st M) := zEv_step rfl
theorem e278_118 (ph : Bool) (d : Nat) (L st : List zV) (M : zM) : zEv ph d 278 118 L st M = zcont ph d 278 (zstep ph (zEm ph d) 70 121 276 [3, 1, 30] L st M) := zEv_step rfl
theorem e278_121 (ph : Bool) (d : Nat) (L st : List zV) (M : zM) : zEv ph d 278 121 L st M = zcont ph d 278 (zstep ph (zEm ph d) 40 124 138 [] L st M) := zEv_step rfl
theorem e278_124 (ph : Bool) (d : Nat) (L st : List zV) (M : zM) : zEv ph d 278 124 L st M = zcont ph d 278 (zstep ph (zEm ph d) 4 125 0 [0] L st M) := zEv_step rfl
theorem e278_125 (ph : Bool) (d : Nat) (L st : List zV) (M : zM) : zEv ph d 278 125 L st M = zcont ph d 278 (zstep ph (zEm ph d) 2 126 0 [1] L st M) := zEv_step rfl
theorem e278_126 (ph : Bool) (d : Nat) (L st : List zV) (M : zM) : zEv ph d 278 126 L st M = zcont ph d 278 (zstep ph (zEm ph d) 0 127 0 [3] L st M) := zEv_step rfl
theorem e278_127 (ph : Bool) (d : Nat) (L st : List zV) (M : zM) : zEv ph d 278 127 L st M = zcont ph d 278 (zstep ph (zEm ph d) 10 128 0 [] L st M) := zEv_step rfl
theorem e278_128 (ph : Bool) (d : Nat) (L st : List zV) (M : zM) : zEv ph d 278 128 L st M = zcont ph d 278 (zstep ph (zEm ph d) 70 131 277 [2, 1, 30] L st M) := zEv_step rfl
theorem e278_131 (ph : Bool) (d : Nat) (L st : List zV) (M : zM) : zEv ph d 278 131 L st M = zcont ph d 278 (zstep ph (zEm ph d) 40 134 138 [] L st M) := zEv_step rfl
theorem e278_134 (ph : Bool) (d : Nat) (L st : List zV) (M : zM) : zEv ph d 278 134 L st M = zcont ph d 278 (zstep ph (zEm ph d) 0 135 0 [1] L st M) := zEv_step rfl
theorem e278_135 (ph : Bool) (d : Nat) (L st : List zV) (M : zM) : zEv ph d 278 135 L st M = zcont ph d 278 (zstep ph (zEm ph d) 52 138 139 [] L st M) := zEv_step rfl
theorem e278_138 (ph : Bool) (d : Nat) (L st : List zV) (M : zM) : zEv ph d 278 138 L st M = zcont ph d 278 (zstep ph (zEm ph d) 0 139 0 [0] L st M) := zEv_step rfl
theorem e278_139 (ph : Bool) (d : Nat) (L st : List zV) (M : zM) : zEv ph d 278 139 L st M = zcont ph d 278 (zstep ph (zEm ph d) 80 140 0 [0, 1] L st M) := zEv_step rfl
theorem m279 (ph : Bool) (d : Nat) (a x0 : Int) (M : zM) : zEm ph (d + 1) 279 [(30, a, x0)] M = zEv ph d 279 0 [(30, a, x0)] [] M := rfl
theorem e279_0 (ph : Bool) (d : Nat) (L st : List zV) (M : zM) : zEv ph d 279 0 L st M = zcont ph d 279 (zstep ph (zEm ph d) 4 1 0 [0] L st M) := zEv_step rfl
theorem e279_1 (ph : Bool) (d : Nat) (L st : List zV) (M : zM) : zEv ph d 279 1 L st M = zcont ph d 279 (zstep ph (zEm ph d) 0 3 0 [15] L st M) := zEv_step rfl
theorem e279_3 (ph : Bool) (d : Nat) (L st : List zV) (M : zM) : zEv ph d 279 3 L st M = zcont ph d 279 (zstep ph (zEm ph d) 70 6 179 [2, 1, 30] L st M) := zEv_step rfl
theorem e279_6 (ph : Bool) (d : Nat) (L st : List zV) (M : zM) : zEv ph d 279 6 L st M = zcont ph d 279 (zstep ph (zEm ph d) 41 9 54 [] L st M) := zEv_step rfl
theorem e279_9 (ph : Bool) (d : Nat) (L st : List zV) (M : zM) : zEv ph d 279 9 L st M = zcont ph d 279 (zstep ph (zEm ph d) 4 10 0 [0] L st M) := zEv_step rfl
theorem e279_10 (ph : Bool) (d : Nat) (L st : List zV) (M : zM) : zEv ph d 279 10 L st M = zcont ph d 279 (zstep ph (zEm ph d) 0 12 0 [16] L st M) := zEv_step rfl
theorem e279_12 (ph : Bool) (d : Nat) (L st : List zV) (M : zM) : zEv ph d 279 12 L st M = zcont ph d 279 (zstep ph (zEm ph d) 70 15 179 [2, 1, 30] L st M) := zEv_step rfl
theorem e279_15 (ph : Bool) (d : Nat) (L st : List zV) (M : zM) : zEv ph d 279 15 L st M = zcont ph d 279 (zstep ph (zEm ph d) 41 18 54 [] L st M) := zEv_step rfl
theorem e279_18 (ph : Bool) (d : Nat) (L st : List zV) (M : zM) : zEv ph d 279 18 L st M = zcont ph d 279 (zstep ph (zEm ph d) 4 19 0 [0] L st M) := zEv_step rfl
theorem e279_19 (ph : Bool) (d : Nat) (L st : List zV) (M : zM) : zEv ph d 279 19 L st M = zcont ph d 279 (zstep ph (zEm ph d) 0 21 0 [17] L st M) := zEv_step rfl
theorem e279_21 (ph : Bool) (d : Nat) (L st : List zV) (M : zM) : zEv ph d 279 21 L st M = zcont ph d 279 (zstep ph (zEm ph d) 70 24 179 [2, 1, 30] L st M) := zEv_step rfl
theorem e279_24 (ph : Bool) (d : Nat) (L st : List zV) (M : zM) : zEv ph d 279 24 L st M = zcont ph d 279 (zstep ph (zEm ph d) 41 27 54 [] L st M) := zEv_step rfl
theorem e279_27 (ph : Bool) (d : Nat) (L st : List zV) (M : zM) : zEv ph d 279 27 L st M = zcont ph d 279 (zstep ph (zEm ph d) 4 28 0 [0] L st M) := zEv_step rfl
theorem e279_28 (ph : Bool) (d : Nat) (L st : List zV) (M : zM) : zEv ph d 279 28 L st M = zcont ph d 279 (zstep ph (zEm ph d) 0 30 0 [18] L st M) := zEv_step rfl
theorem e279_30 (ph : Bool) (d : Nat) (L st : List zV) (M : zM) : zEv ph d 279 30 L st M = zcont ph d 279 (zstep ph (zEm ph d) 70 33 179 [2, 1, 30] L st M) := zEv_step rfl
theorem e279_33 (ph : Bool) (d : Nat) (L st : List zV) (M : zM) : zEv ph d 279 33 L st M = zcont ph d 279 (zstep ph (zEm ph d) 41 36 54 [] L st M) := zEv_step rfl
theorem e279_36 (ph : Bool) (d : Nat) (L st : List zV) (M : zM) : zEv ph d 279 36 L st M = zcont ph d 279 (zstep ph (zEm ph d) 4 37 0 [0] L st M) := zEv_step rfl
theorem e279_37 (ph : Bool) (d : Nat) (L st : List zV) (M : zM) : zEv ph d 279 37 L st M = zcont ph d 279 (zstep ph (zEm ph d) 0 39 0 [19] L st M) := zEv_step rfl
theorem e279_39 (ph : Bool) (d : Nat) (L st : List zV) (M : zM) : zEv ph d 279 39 L st M = zcont ph d 279 (zstep ph (zEm ph d) 70 42 179 [2, 1, 30] L st M) := zEv_step rfl
theorem e279_42 (ph : Bool) (d : Nat) (L st : List zV) (M : zM) : zEv ph d 279 42 L st M = zcont ph d 279 (zstep ph (zEm ph d) 41 45 54 [] L st M) := zEv_step rfl
theorem e279_45 (ph : Bool) (d : Nat) (L st : List zV) (M : zM) : zEv ph d 279 45 L st M = zcont ph d 279 (zstep ph (zEm ph d) 4 46 0 [0] L st M) := zEv_step rfl
theorem e279_46 (ph : Bool) (d : Nat) (L st : List zV) (M : zM) : zEv ph d 279 46 L st M = zcont ph d 279 (zstep ph (zEm ph d) 0 48 0 [20] L st M) := zEv_step rfl
theorem e279_48 (ph : Bool) (d : Nat) (L st : List zV) (M : zM) : zEv ph d 279 48 L st M = zcont ph d 279 (zstep ph (zEm ph d) 70 51 179 [2, 1, 30] L st M) := zEv_step rfl
theorem e279_51 (ph : Bool) (d : Nat) (L st : List zV) (M : zM) : zEv ph d 279 51 L st M = zcont ph d 279 (zstep ph (zEm ph d) 40 54 58 [] L st M) := zEv_step rfl
theorem e279_54 (ph : Bool) (d : Nat) (L st : List zV) (M : zM) : zEv ph d 279 54 L st M = zcont ph d 279 (zstep ph (zEm ph d) 0 55 0 [1] L st M) := zEv_step rfl
theorem e279_55 (ph : Bool) (d : Nat) (L st : List zV) (M : zM) : zEv ph d 279 55 L st M = zcont ph d 279 (zstep ph (zEm ph d) 52 58 59 [] L st M) := zEv_step rfl
theorem e279_58 (ph : Bool) (d : Nat) (L st : List zV) (M : zM) : zEv ph d 279 58 L st M = zcont ph d 279 (zstep ph (zEm ph d) 0 59 0 [0] L st M) := zEv_step rfl
theorem e279_59 (ph : Bool) (d : Nat) (L st : List zV) (M : zM) : zEv ph d 279 59 L st M = zcont ph d 279 (zstep ph (zEm ph d) 80 60 0 [0, 1] L st M) := zEv_step rfl
theorem m276 (ph : Bool) (d : Nat) (a x0 p0 y0 p1 y1 : Int) (M : zM) : zEm ph (d + 1) 276 [(30, a, x0), (0, p0, y0), (0, p1, y1)] M = zEv ph d 276 0 [(30, a, x0), (0, p0, y0), (0, p1, y1)] [] M := rfl
theorem e276_0 (ph : Bool) (d : Nat) (L st : List zV) (M : zM) : zEv ph d 276 0 L st M = zcont ph d 276 (zstep ph (zEm ph d) 2 1 0 [2] L st M) := zEv_step rfl
theorem e276_1 (ph : Bool) (d : Nat) (L st : List zV) (M : zM) : zEv ph d 276 1 L st M = zcont ph d 276 (zstep ph (zEm ph d) 40 4 14 [] L st M) := zEv_step rfl
theorem e276_4 (ph : Bool) (d : Nat) (L st : List zV) (M : zM) : zEv ph d 276 4 L st M = zcont ph d 276 (zstep ph (zEm ph d) 4 5 0 [0] L st M) := zEv_step rfl
theorem e276_5 (ph : Bool) (d : Nat) (L st : List zV) (M : zM) : zEv ph d 276 5 L st M = zcont ph d 276 (zstep ph (zEm ph d) 62 8 0 [30, 41, 19, 10, 160] L st M) := zEv_step rfl
theorem e276_8 (ph : Bool) (d : Nat) (L st : List zV) (M : zM) : zEv ph d 276 8 L st M = zcont ph d 276 (zstep ph (zEm ph d) 2 9 0 [1] L st M) := zEv_step rfl
theorem e276_9 (ph : Bool) (d : Nat) (L st : List zV) (M : zM) : zEv ph d 276 9 L st M = zcont ph d 276 (zstep ph (zEm ph d) 4 10 0 [0] L st M) := zEv_step rfl
theorem e276_10 (ph : Bool) (d : Nat) (L st : List zV) (M : zM) : zEv ph d 276 10 L st M = zcont ph d 276 (zstep ph (zEm ph d) 60 13 0 [30, 13] L st M) := zEv_step rfl
theorem e276_13 (ph : Bool) (d : Nat) (L st : List zV) (M : zM) : zEv ph d 276 13 L st M = zcont ph d 276 (zstep ph (zEm ph d) 89 14 0 [] L st M) := zEv_step rfl
theorem e276_14 (ph : Bool) (d : Nat) (L st : List zV) (M : zM) : zEv ph d 276 14 L st M = zcont ph d 276 (zstep ph (zEm ph d) 2 15 0 [2] L st M) := zEv_step rfl
theorem e276_15 (ph : Bool) (d : Nat) (L st : List zV) (M : zM) : zEv ph d 276 15 L st M = zcont ph d 276 (zstep ph (zEm ph d) 80 16 0 [0, 1] L st M) := zEv_step rfl
theorem m277 (ph : Bool) (d : Nat) (a x0 p0 y0 : Int) (M : zM) : zEm ph (d + 1) 277 [(30, a, x0), (0, p0, y0)] M = zEv ph d 277 0 [(30, a, x0), (0, p0, y0)] [] M := rfl
theorem e277_0 (ph : Bool) (d : Nat) (L st : List zV) (M : zM) : zEv ph d 277 0 L st M = zcont ph d 277 (zstep ph (zEm ph d) 4 1 0 [0] L st M) := zEv_step rfl
theorem e277_1 (ph : Bool) (d : Nat) (L st : List zV) (M : zM) : zEv ph d 277 1 L st M = zcont ph d 277 (zstep ph (zEm ph d) 70 4 195 [1, 1, 30] L st M) := zEv_step rfl
theorem e277_4 (ph : Bool) (d : Nat) (L st : List zV) (M : zM) : zEv ph d 277 4 L st M = zcont ph d 277 (zstep ph (zEm ph d) 41 7 9 [] L st M) := zEv_step rfl
theorem e277_7 (ph : Bool) (d : Nat) (L st : List zV) (M : zM) : zEv ph d 277 7 L st M = zcont ph d 277 (zstep ph (zEm ph d) 0 8 0 [0] L st M) := zEv_step rfl
theorem e277_8 (ph : Bool) (d : Nat) (L st : List zV) (M : zM) : zEv ph d 277 8 L st M = zcont ph d 277 (zstep ph (zEm ph d) 80 9 0 [0, 1] L st M) := zEv_step rfl
theorem e277_9 (ph : Bool) (d : Nat) (L st : List zV) (M : zM) : zEv ph d 277 9 L st M = zcont ph d 277 (zstep ph (zEm ph d) 4 10 0 [0] L st M) := zEv_step rfl
theorem e277_10 (ph : Bool) (d : Nat) (L st : List zV) (M : zM) : zEv ph d 277 10 L st M = zcont ph d 277 (zstep ph (zEm ph d) 62 13 0 [30, 41, 19, 10, 160] L st M) := zEv_step rfl
theorem e277_13 (ph : Bool) (d : Nat) (L st : List zV) (M : zM) : zEv ph d 277 13 L st M = zcont ph d 277 (zstep ph (zEm ph d) 2 14 0 [1] L st M) := zEv_step rfl
theorem e277_14 (ph : Bool) (d : Nat) (L st : List zV) (M : zM) : zEv ph d 277 14 L st M = zcont ph d 277 (zstep ph (zEm ph d) 4 15 0 [0] L st M) := zEv_step rfl
theorem e277_15 (ph : Bool) (d : Nat) (L st : List zV) (M : zM) : zEv ph d 277 15 L st M = zcont ph d 277 (zstep ph (zEm ph d) 60 18 0 [30, 13] L st M) := zEv_step rfl
theorem e277_18 (ph : Bool) (d : Nat) (L st : List zV) (M : zM) : zEv ph d 277 18 L st M = zcont ph d 277 (zstep ph (zEm ph d) 89 19 0 [] L st M) := zEv_step rfl
theorem e277_19 (ph : Bool) (d : Nat) (L st : List zV) (M : zM) : zEv ph d 277 19 L st M = zcont ph d 277 (zstep ph (zEm ph d) 4 20 0 [0] L st M) := zEv_step rfl
theorem e277_20 (ph : Bool) (d : Nat) (L st : List zV) (M : zM) : zEv ph d 277 20 L st M = zcont ph d 277 (zstep ph (zEm ph d) 70 23 176 [1, 0, 30] L st M) := zEv_step rfl
theorem e277_23 (ph : Bool) (d : Nat) (L st : List zV) (M : zM) : zEv ph d 277 23 L st M = zcont ph d 277 (zstep ph (zEm ph d) 0 24 0 [1] L st M) := zEv_step rfl
theorem e277_24 (ph : Bool) (d : Nat) (L st : List zV) (M : zM) : zEv ph d 277 24 L st M = zcont ph d 277 (zstep ph (zEm ph d) 80 25 0 [0, 1] L st M) := zEv_step rfl
def bkA (A : zM) (k w h q n : Int) : zM := zup (zup (zup (zup (zup A 26 k w) 27 k h) 28 k q) 29 k n) 25 4 (k + 1)
theorem bkA_f {A : zM} {k w h q n x y : Int} (h1 : ¬ (x = 25 ∧ y = 4)) (h2 : ¬ (26 ≤ x ∧ x ≤ 29 ∧ y = k)) : bkA A k w h q n x y = A x y := by
  unfold bkA
  rw [zup_f (by omega), zup_f (by omega), zup_f (by omega), zup_f (by omega), zup_f (by omega)]
theorem bkA_r {A : zM} {k w h q n : Int} : bkA A k w h q n 25 4 = k + 1 ∧ bkA A k w h q n 26 k = w ∧ bkA A k w h q n 27 k = h ∧ bkA A k w h q n 28 k = q ∧ bkA A k w h q n 29 k = n := by
  unfold bkA
  refine ⟨?_, ?_, ?_, ?_, ?_⟩
  · rw [zup_e (by omega)]
  · rw [zup_f (by omega), zup_f (by omega), zup_f (by omega), zup_f (by omega), zup_e (by omega)]
  · rw [zup_f (by omega), zup_f (by omega), zup_f (by omega), zup_e (by omega)]
  · rw [zup_f (by omega), zup_f (by omega), zup_e (by omega)]
  · rw [zup_f (by omega), zup_e (by omega)]
theorem s_badd (D : Nat) (hD : 1 ≤ D) (x0 w y h y1 q y2 n y3 k : Int) (A : zM) (hk : A 25 4 = k) (k0 : 0 ≤ k) (k1 : k < 40) : zEm true D 64 [(20, 25, x0), (0, w, y), (0, h, y1), (0, q, y2), (0, n, y3)] A = some ((0, 1, 0), bkA A k w h q n) := by
  obtain ⟨d, rfl⟩ : ∃ d, D = d + 1 := ⟨D - 1, by omega⟩
  unfold bkA
  simp (disch := first | assumption | exact zrm0 | exact zrm1 _ | exact zrm2 _ _ | exact zrm3 _ _ _ | exact zrm4 _ _ _ _ | omega) only [m64, ↓k_dp, ↓k_dn, k_dp, k_dn, k_dT, k_dF, k_ip, k_in, if_true, if_false, ne_eq, not_true_eq_false, not_false_eq_true, Int.reduceAdd, zup_a, zup_e, zup_j, z32_id, k_al0, k_gI, k_ic, k_iclt, k_rz, k_gR, k_il1, k_ist, k_il2, k_il3, k_il4, k_dup, k_iadd, k_pI, e64_0, e64_1, e64_4, e64_6, e64_9, e64_10, e64_11, e64_12, e64_15, e64_16, e64_19, e64_20, e64_21, e64_22, e64_25, e64_26, e64_29, e64_30, e64_31, e64_32, e64_35, e64_36, e64_39, e64_40, e64_41, e64_42, e64_45, e64_46, e64_49, e64_51, e64_52, e64_53, e64_54, e64_57, e64_58, e64_59, e64_62, e64_63, hk]
theorem r_keepY (E : Nat) (hE : 1 ≤ E) (y0 i y y2 : Int) (B : zM) (i0 : 0 ≤ i) (i1 : i < 160) : zEm true E 276 [(30, 197, y0), (0, i, y), (0, 1, y2)] B = some ((0, 1, 0), zup B 216 i (B 197 13)) := by
  obtain ⟨e, rfl⟩ : ∃ e, E = e + 1 := ⟨E - 1, by omega⟩
  simp (disch := first | assumption | exact zrm0 | exact zrm1 _ | exact zrm2 _ _ | exact zrm3 _ _ _ | exact zrm4 _ _ _ _ | omega) only [m276, ↓k_dp, ↓k_dn, k_dp, k_dn, k_dT, k_dF, k_ip, k_in, if_true, if_false, ne_eq, not_true_eq_false, not_false_eq_true, Int.reduceAdd, zup_a, zup_e, zup_j, z32_id, k_il2, k_ifeq, k_al0, k_gR, k_il1, k_gI, k_ist, k_rz, e276_0, e276_1, e276_4, e276_5, e276_8, e276_9, e276_10, e276_13, e276_14, e276_15]
theorem r_keepN (E : Nat) (hE : 1 ≤ E) (y0 i y y2 : Int) (B : zM) : zEm true E 276 [(30, 197, y0), (0, i, y), (0, 0, y2)] B = some ((0, 0, 0), B) := by
  obtain ⟨e, rfl⟩ : ∃ e, E = e + 1 := ⟨E - 1, by omega⟩
  simp (disch := first | assumption | exact zrm0 | exact zrm1 _ | exact zrm2 _ _ | exact zrm3 _ _ _ | exact zrm4 _ _ _ _ | omega) only [m276, ↓k_dp, ↓k_dn, k_dp, k_dn, k_dT, k_dF, k_ip, k_in, if_true, if_false, ne_eq, not_true_eq_false, not_false_eq_true, Int.reduceAdd, zup_a, zup_e, zup_j, z32_id, k_il2, k_ifeq, k_al0, k_gR, k_il1, k_gI, k_ist, k_rz, e276_0, e276_1, e276_4, e276_5, e276_8, e276_9, e276_10, e276_13, e276_14, e276_15]
/-- a name of the present valley: seen by the class, read by the reference -/
theorem p_named {A B : zM} (h : tkR A B) (D E : Nat) (hD : 6 ≤ D) (hE : 5 ≤ E) (a l b many : Int) (y0 y y2 y3 : Int) (b0 : 0 ≤ b) (m0 : 0 ≤ many) (hm : b + many ≤ 20) (ml : many ≤ l) (hl : l ≤ 20) (hn : ∀ k, 0 ≤ k → k < many → nmR (A a k) (B 204 (b + k))) : (∃ w A' B', (0 ≤ w ∧ w < many) ∧ A 2 5 = 2 ∧ zEm true D 149 [(27, 2, 0), (11, a, l), (0, many, y)] A = some ((0, w, 0), A) ∧ zEm true D 141 [(27, 2, 0)] A = some ((98, 0, 0), A') ∧ zEm true E 275 [(30, 197, y0), (0, b, y2), (0, many, y3)] B = some ((0, 1, 0), B') ∧ B' 197 13 = w ∧ agX A A' ∧ agY B B' ∧ tkR A' B') ∨ ∃ A' B', zEm true D 149 [(27, 2, 0), (11, a, l), (0, many, y)] A = some ((0, -1, 0), A') ∧ zEm true E 275 [(30, 197, y0), (0, b, y2), (0, many, y3)] B = some ((0, 0, 0), B') ∧ agX A A' ∧ agY B B' ∧ flR A' B' := by
  obtain ⟨d, rfl⟩ : ∃ d, D = d + 1 := ⟨D - 1, by omega⟩
  obtain ⟨e, rfl⟩ : ∃ e, E = e + 1 := ⟨E - 1, by omega⟩
  have nm := p_isName h e (by omega) y0
  have wb := h.2.wb
  have w1 := h.2.w1
  by_cases c : A 2 7 = 2
  · have hv := h.2.nr c
    rw [if_pos c] at nm
    have hs := s_placeOf d (by omega) (A 2 8) 0 a l 0 many A m0 ml hl
    have hr := r_findIn e (by omega) 204 b 0 0 (B 197 12) 0 many B b0 m0 hm
    rw [p_find hn hv] at hr
    have ht := fnd_t (P := fun k => A a k = A 2 8) many.toNat 0 (by omega)
    generalize hF : fnd (fun k => A a k = A 2 8) many.toNat 0 = F at *
    have hk2 := (h.2.nm.1 c).1
    by_cases cF : F = -1
    · right
      have hT : tkR A (zup B 197 13 (-1)) := tkR_fr h (fun _ _ _ => rfl) (fun x y z => zup_f (by omega))
      obtain ⟨Af, Bf, f1, f2, f3, f4, f5⟩ := p_fail hT (k := 3) (by omega) (by omega) (fun z => by rw [zup_j (by omega)] at z; omega)
      have f1' := f1 d 0 0 (by omega)
      have f2' := f2 e y0 0 (by omega)
      rw [cF] at hs hr
      refine ⟨Af, Bf, ?_, ?_, f3, fun x y z => by rw [f4 x y z, zup_f (by omega)], f5⟩
      · simp (disch := first | assumption | exact zrm0 | exact zrm1 _ | exact zrm2 _ _ | exact zrm3 _ _ _ | exact zrm4 _ _ _ _ | omega) only [m149, ↓k_dp, ↓k_dn, k_dp, k_dn, k_dT, k_dF, k_ip, k_in, if_true, if_false, ne_eq, not_true_eq_false, not_false_eq_true, Int.reduceAdd, zup_a, zup_e, zup_j, z32_id, k_al0, k_gE, k_en, k_aceq, k_ic, k_v2r, k_pop, k_ri, k_gL, k_al1, k_il2, k_s3r, k_is3, k_il3, k_icne, zb0_some, zb1_some, e149_0, e149_1, e149_4, e149_7, e149_10, e149_11, e149_12, e149_15, e149_16, e149_17, e149_18, e149_19, e149_22, e149_23, e149_24, e149_27, e149_28, e149_29, e149_30, e149_33, e149_34, e149_35, e149_38, e149_39, e149_40, hs, f1']
      · simp (disch := first | assumption | exact zrm0 | exact zrm1 _ | exact zrm2 _ _ | exact zrm3 _ _ _ | exact zrm4 _ _ _ _ | omega) only [m275, ↓k_dp, ↓k_dn, k_dp, k_dn, k_dT, k_dF, k_ip, k_in, if_true, if_false, ne_eq, not_true_eq_false, not_false_eq_true, Int.reduceAdd, zup_a, zup_e, zup_j, z32_id, k_al0, k_v1r, k_ifne, k_ic, k_v2r, k_rz, k_gR, k_il1, k_il2, k_gL, k_s4r, k_pI, k_gI, k_icne, k_v1, zb0_some, zb1_some, e275_0, e275_1, e275_4, e275_7, e275_8, e275_9, e275_12, e275_13, e275_14, e275_15, e275_18, e275_19, e275_20, e275_21, e275_24, e275_27, e275_30, e275_31, e275_34, e275_35, e275_38, e275_39, e275_40, e275_43, e275_44, e275_45, e275_48, e275_49, nm, hr, f2']
    · left
      have h2 := ht.resolve_left (fun z => cF z.1)
      have hT : tkR A (zup B 197 13 F) := tkR_fr h (fun _ _ _ => rfl) (fun x y z => zup_f (by omega))
      obtain ⟨A', B', b1, b2, b3, b4, b5, b6⟩ := p_go hT.1 (d + 1) e (by omega) (by omega) 0 y0
      refine ⟨F, A', B', by omega, by omega, ?_, b1, ?_, ?_, agX_a b4, fun x y z => ?_, b3⟩
      · simp (disch := first | assumption | exact zrm0 | exact zrm1 _ | exact zrm2 _ _ | exact zrm3 _ _ _ | exact zrm4 _ _ _ _ | omega) only [m149, ↓k_dp, ↓k_dn, k_dp, k_dn, k_dT, k_dF, k_ip, k_in, if_true, if_false, ne_eq, not_true_eq_false, not_false_eq_true, Int.reduceAdd, zup_a, zup_e, zup_j, z32_id, k_al0, k_gE, k_en, k_aceq, k_ic, k_v2r, k_pop, k_ri, k_gL, k_al1, k_il2, k_s3r, k_is3, k_il3, k_icne, zb0_some, zb1_some, e149_0, e149_1, e149_4, e149_7, e149_10, e149_11, e149_12, e149_15, e149_16, e149_17, e149_18, e149_19, e149_22, e149_23, e149_24, e149_27, e149_28, e149_29, e149_30, e149_33, e149_34, e149_35, e149_38, e149_39, e149_40, hs]
      · simp (disch := first | assumption | exact zrm0 | exact zrm1 _ | exact zrm2 _ _ | exact zrm3 _ _ _ | exact zrm4 _ _ _ _ | omega) only [m275, ↓k_dp, ↓k_dn, k_dp, k_dn, k_dT, k_dF, k_ip, k_in, if_true, if_false, ne_eq, not_true_eq_false, not_false_eq_true, Int.reduceAdd, zup_a, zup_e, zup_j, z32_id, k_al0, k_v1r, k_ifne, k_ic, k_v2r, k_rz, k_gR, k_il1, k_il2, k_gL, k_s4r, k_pI, k_gI, k_icne, k_v1, zb0_some, zb1_some, e275_0, e275_1, e275_4, e275_7, e275_8, e275_9, e275_12, e275_13, e275_14, e275_15, e275_18, e275_19, e275_20, e275_21, e275_24, e275_27, e275_30, e275_31, e275_34, e275_35, e275_38, e275_39, e275_40, e275_43, e275_44, e275_45, e275_48, e275_49, nm, hr, b2]
      · rw [b5 _ _ (by omega), zup_e (by omega)]
      · rw [b5 x y (by omega), zup_f (by omega)]
  · right
    obtain ⟨Af, Bf, f1, f2, f3, f4, f5⟩ := p_fail h (k := 1) (by omega) (by omega) (fun _ => rfl)
    have f1' := f1 d 0 0 (by omega)
    have f2' := f2 e y0 0 (by omega)
    rw [if_neg c] at nm
    refine ⟨Af, Bf, ?_, ?_, f3, f4, f5⟩
    · simp (disch := first | assumption | exact zrm0 | exact zrm1 _ | exact zrm2 _ _ | exact zrm3 _ _ _ | exact zrm4 _ _ _ _ | omega) only [m149, ↓k_dp, ↓k_dn, k_dp, k_dn, k_dT, k_dF, k_ip, k_in, if_true, if_false, ne_eq, not_true_eq_false, not_false_eq_true, Int.reduceAdd, zup_a, zup_e, zup_j, z32_id, k_al0, k_gE, k_en, k_aceq, k_ic, k_v2r, k_pop, k_ri, k_gL, k_al1, k_il2, k_s3r, k_is3, k_il3, k_icne, zb0_some, zb1_some, e149_0, e149_1, e149_4, e149_7, e149_10, e149_11, e149_12, e149_15, e149_16, e149_17, e149_18, e149_19, e149_22, e149_23, e149_24, e149_27, e149_28, e149_29, e149_30, e149_33, e149_34, e149_35, e149_38, e149_39, e149_40, f1']
    · simp (disch := first | assumption | exact zrm0 | exact zrm1 _ | exact zrm2 _ _ | exact zrm3 _ _ _ | exact zrm4 _ _ _ _ | omega) only [m275, ↓k_dp, ↓k_dn, k_dp, k_dn, k_dT, k_dF, k_ip, k_in, if_true, if_false, ne_eq, not_true_eq_false, not_false_eq_true, Int.reduceAdd, zup_a, zup_e, zup_j, z32_id, k_al0, k_v1r, k_ifne, k_ic, k_v2r, k_rz, k_gR, k_il1, k_il2, k_gL, k_s4r, k_pI, k_gI, k_icne, k_v1, zb0_some, zb1_some, e275_0, e275_1, e275_4, e275_7, e275_8, e275_9, e275_12, e275_13, e275_14, e275_15, e275_18, e275_19, e275_20, e275_21, e275_24, e275_27, e275_30, e275_31, e275_34, e275_35, e275_38, e275_39, e275_40, e275_43, e275_44, e275_45, e275_48, e275_49, nm, f2']
theorem p_takeNamed {A B : zM} (h : tkR A B) (D E : Nat) (hD : 7 ≤ D) (hE : 5 ≤ E) (a l b many : Int) (y0 y y2 y3 : Int) (b0 : 0 ≤ b) (m0 : 0 ≤ many) (hm : b + many ≤ 20) (ml : many ≤ l) (hl : l ≤ 20) (hn : ∀ k, 0 ≤ k → k < many → nmR (A a k) (B 204 (b + k))) : ∃ A' B' v w, zEm true D 150 [(27, 2, 0), (11, a, l), (0, many, y)] A = some ((0, w, 0), A') ∧ zEm true E 275 [(30, 197, y0), (0, b, y2), (0, many, y3)] B = some ((0, v, 0), B') ∧ agX A A' ∧ agY B B' ∧ (v = 1 ∧ (0 ≤ w ∧ w < many) ∧ B' 197 13 = w ∧ tkR A' B' ∨ v = 0 ∧ w = -1 ∧ flR A' B') := by
  obtain ⟨d, rfl⟩ : ∃ d, D = d + 1 := ⟨D - 1, by omega⟩
  rcases p_named h d E (by omega) hE a l b many y0 0 y2 y3 b0 m0 hm ml hl hn with ⟨w, A', B', hw, -, c1, c2, c3, c4, c5, c6, c7⟩ | ⟨A', B', c1, c2, c3, c4, c5⟩
  · refine ⟨A', B', 1, w, ?_, c3, c5, c6, Or.inl ⟨rfl, hw, c4, c7⟩⟩
    simp (disch := first | assumption | exact zrm0 | exact zrm1 _ | exact zrm2 _ _ | exact zrm3 _ _ _ | exact zrm4 _ _ _ _ | omega) only [m150, ↓k_dp, ↓k_dn, k_dp, k_dn, k_dT, k_dF, k_ip, k_in, if_true, if_false, ne_eq, not_true_eq_false, not_false_eq_true, Int.reduceAdd, zup_a, zup_e, zup_j, z32_id, k_al0, k_al1, k_il2, k_v3r, k_is3, k_il3, k_ic, k_iceq, k_v1, k_ri, zb0_some, zb1_some, e150_0, e150_1, e150_2, e150_3, e150_6, e150_7, e150_8, e150_9, e150_12, e150_13, e150_16, e150_17, c1, c2]
  · refine ⟨A', B', 0, -1, ?_, c2, c3, c4, Or.inr ⟨rfl, rfl, c5⟩⟩
    simp (disch := first | assumption | exact zrm0 | exact zrm1 _ | exact zrm2 _ _ | exact zrm3 _ _ _ | exact zrm4 _ _ _ _ | omega) only [m150, ↓k_dp, ↓k_dn, k_dp, k_dn, k_dT, k_dF, k_ip, k_in, if_true, if_false, ne_eq, not_true_eq_false, not_false_eq_true, Int.reduceAdd, zup_a, zup_e, zup_j, z32_id, k_al0, k_al1, k_il2, k_v3r, k_is3, k_il3, k_ic, k_iceq, k_v1, k_ri, zb0_some, zb1_some, e150_0, e150_1, e150_2, e150_3, e150_6, e150_7, e150_8, e150_9, e150_12, e150_13, e150_16, e150_17, c1]
theorem p_takeWay {A B : zM} (h : tkR A B) (D E : Nat) (hD : 7 ≤ D) (hE : 5 ≤ E) (y0 i y : Int) (i0 : 0 ≤ i) (i1 : i < 160) : ∃ A' B' v w, zEm true D 148 [(27, 2, 0)] A = some ((0, w, 0), A') ∧ zEm true E 277 [(30, 197, y0), (0, i, y)] B = some ((0, v, 0), B') ∧ agX A A' ∧ (∀ x y, ¬ (x = 197 ∧ 5 ≤ y ∧ y ≤ 13) → ¬ (x = 216 ∧ y = i) → B' x y = B x y) ∧ (v = 1 ∧ (0 ≤ w ∧ w ≤ 1) ∧ B' 216 i = w ∧ tkR A' B' ∨ v = 0 ∧ w = -1 ∧ flR A' B') := by
  obtain ⟨d, rfl⟩ : ∃ d, D = d + 1 := ⟨D - 1, by omega⟩
  obtain ⟨e, rfl⟩ : ∃ e, E = e + 1 := ⟨E - 1, by omega⟩
  obtain ⟨A1, B1, v, w, a1, a2, a3, a4, a5⟩ := p_way h d e (by omega) (by omega) 0 y0
  rcases a5 with ⟨rfl, hw, rfl, e2, h5⟩ | ⟨rfl, rfl, a5⟩
  · have h13 : B1 197 13 = w := by rw [e2, zup_e (by omega)]
    have hT : tkR A1 (zup B1 216 i w) := tkR_fr h (fun _ _ _ => rfl) (fun x y z => by rw [zup_f (by omega), e2, zup_f (by omega)])
    obtain ⟨A', B', b1, b2, b3, b4, b5, b6⟩ := p_go hT.1 d e (by omega) (by omega) 0 y0
    refine ⟨A', B', 1, w, ?_, ?_, agX_a b4, fun x y z1 z2 => ?_, Or.inl ⟨rfl, hw, ?_, b3⟩⟩
    · simp (disch := first | assumption | exact zrm0 | exact zrm1 _ | exact zrm2 _ _ | exact zrm3 _ _ _ | exact zrm4 _ _ _ _ | omega) only [m148, ↓k_dp, ↓k_dn, k_dp, k_dn, k_dT, k_dF, k_ip, k_in, if_true, if_false, ne_eq, not_true_eq_false, not_false_eq_true, Int.reduceAdd, zup_a, zup_e, zup_j, z32_id, k_al0, k_v1r, k_is1, k_il1, k_ic, k_iceq, k_v1, k_ri, zb0_some, zb1_some, e148_0, e148_1, e148_4, e148_5, e148_6, e148_7, e148_10, e148_11, e148_14, e148_15, a1, b1]
    · simp (disch := first | assumption | exact zrm0 | exact zrm1 _ | exact zrm2 _ _ | exact zrm3 _ _ _ | exact zrm4 _ _ _ _ | omega) only [m277, ↓k_dp, ↓k_dn, k_dp, k_dn, k_dT, k_dF, k_ip, k_in, if_true, if_false, ne_eq, not_true_eq_false, not_false_eq_true, Int.reduceAdd, zup_a, zup_e, zup_j, z32_id, k_al0, k_v1r, k_ifne, k_ic, k_rz, k_gR, k_il1, k_gI, k_ist, k_v1, zb0_some, zb1_some, e277_0, e277_1, e277_4, e277_7, e277_8, e277_9, e277_10, e277_13, e277_14, e277_15, e277_18, e277_19, e277_20, e277_23, e277_24, a2, h13, b2]
    · rw [b5 x y (by omega), zup_f (by omega), a4 x y z1]
    · rw [b5 _ _ (by omega), zup_e (by omega)]
  · refine ⟨A1, B1, 0, -1, ?_, ?_, a3, fun x y z1 z2 => a4 x y z1, Or.inr ⟨rfl, rfl, a5⟩⟩
    · simp (disch := first | assumption | exact zrm0 | exact zrm1 _ | exact zrm2 _ _ | exact zrm3 _ _ _ | exact zrm4 _ _ _ _ | omega) only [m148, ↓k_dp, ↓k_dn, k_dp, k_dn, k_dT, k_dF, k_ip, k_in, if_true, if_false, ne_eq, not_true_eq_false, not_false_eq_true, Int.reduceAdd, zup_a, zup_e, zup_j, z32_id, k_al0, k_v1r, k_is1, k_il1, k_ic, k_iceq, k_v1, k_ri, zb0_some, zb1_some, e148_0, e148_1, e148_4, e148_5, e148_6, e148_7, e148_10, e148_11, e148_14, e148_15, a1]
    · simp (disch := first | assumption | exact zrm0 | exact zrm1 _ | exact zrm2 _ _ | exact zrm3 _ _ _ | exact zrm4 _ _ _ _ | omega) only [m277, ↓k_dp, ↓k_dn, k_dp, k_dn, k_dT, k_dF, k_ip, k_in, if_true, if_false, ne_eq, not_true_eq_false, not_false_eq_true, Int.reduceAdd, zup_a, zup_e, zup_j, z32_id, k_al0, k_v1r, k_ifne, k_ic, k_rz, k_gR, k_il1, k_gI, k_ist, k_v1, zb0_some, zb1_some, e277_0, e277_1, e277_4, e277_7, e277_8, e277_9, e277_10, e277_13, e277_14, e277_15, e277_18, e277_19, e277_20, e277_23, e277_24, a2]
/-- a line of a book: the class's, and the reference's -/
def bkL (H Q w h q n t x y z : Int) : Prop := w = 10 * t ∧ ((t = 0 ∧ x = h ∧ y = n ∧ 0 ≤ h ∧ h < H ∧ 1 ≤ n ∧ n ≤ 20) ∨ ((t = 1 ∨ t = 2) ∧ x = h ∧ 0 ≤ h ∧ h < H) ∨ (t = 3 ∧ x = h ∧ y = q ∧ z = n ∧ 0 ≤ h ∧ h < H ∧ 0 ≤ q ∧ q < Q ∧ 0 ≤ n ∧ n ≤ 1) ∨ (t = 4 ∧ x = q ∧ 0 ≤ q ∧ q < Q) ∨ (t = 5 ∧ x = q ∧ y = n ∧ 0 ≤ q ∧ q ≤ 1 ∧ 0 ≤ n ∧ n ≤ 20) ∨ (t = 6 ∧ x = q ∧ 0 ≤ q ∧ q ≤ 2) ∨ (t = 7 ∧ x = n ∧ 1 ≤ n ∧ n ≤ 60))
def bkK (A B : zM) (H Q k : Int) : Prop := bkL H Q (A 26 k) (A 27 k) (A 28 k) (A 29 k) (B 216 (4 * k)) (B 216 (4 * k + 1)) (B 216 (4 * k + 2)) (B 216 (4 * k + 3))
def frB (k : Int) (A A' : zM) : Prop := ∀ x y, ¬ (x = 2 ∧ 3 ≤ y ∧ y ≤ 11) → ¬ (x = 25 ∧ y = 4) → ¬ (26 ≤ x ∧ x ≤ 29 ∧ y = k) → A' x y = A x y
def frC (k : Int) (B B' : zM) : Prop := ∀ x y, ¬ (x = 197 ∧ 5 ≤ y ∧ y ≤ 13) → ¬ (x = 216 ∧ 4 * k ≤ y ∧ y < 4 * k + 4) → B' x y = B x y
def lnB (k H Q : Int) (A' B' : zM) (r : Int) : Prop := (r = 1 ∧ tkR A' B' ∧ A' 25 4 = k + 1 ∧ bkK A' B' H Q k) ∨ (r = 0 ∧ flR A' B')
theorem lnB_r {k H Q r : Int} {A' B' : zM} (h : lnB k H Q A' B' r) : r = 0 ∨ r = 1 := by
  rcases h with z | z
  · exact Or.inr z.1
  · exact Or.inl z.1
theorem frB_X {A B C : zM} {k : Int} (h : frB k A B) (g : agX B C) : frB k A C := fun x y z1 z2 z3 => (g x y z1).trans (h x y z1 z2 z3)
theorem frC_Y {A B C : zM} {k : Int} (h : frC k A B) (g : agY B C) : frC k A C := fun x y z1 z2 => (g x y z1).trans (h x y z1 z2)
theorem frB_0 {A : zM} {k : Int} : frB k A A := fun _ _ _ _ _ => rfl
theorem frC_0 {A : zM} {k : Int} : frC k A A := fun _ _ _ _ => rfl
theorem frC_u {A B : zM} {k i v : Int} (h : frC k A B) (i0 : 4 * k ≤ i) (i1 : i < 4 * k + 4) : frC k A (zup B 216 i v) := fun x y z1 z2 => by rw [zup_f (by omega)]; exact h x y z1 z2
theorem frB_b {A B : zM} {k w h q n : Int} (g : frB k A B) : frB k A (bkA B k w h q n) := fun x y z1 z2 z3 => by rw [bkA_f z2 z3]; exact g x y z1 z2 z3
