/-! a sentence is read: its ones -/
theorem m91 (ph : Bool) (d : Nat) (a x0 p0 y0 : Int) (M : zM) : zEm ph (d + 1) 91 [(24, a, x0), (28, p0, y0)] M = zEv ph d 91 0 [(24, a, x0), (28, p0, y0)] [] M := rfl
theorem e91_0 (ph : Bool) (d : Nat) (L st : List zV) (M : zM) : zEv ph d 91 0 L st M = zcont ph d 91 (zstep ph (zEm ph d) 4 1 0 [0] L st M) := zEv_step rfl
theorem e91_1 (ph : Bool) (d : Nat) (L st : List zV) (M : zM) : zEv ph d 91 1 L st M = zcont ph d 91 (zstep ph (zEm ph d) 62 4 0 [24, 3, 19, 25, 0] L st M) := zEv_step rfl
theorem e91_4 (ph : Bool) (d : Nat) (L st : List zV) (M : zM) : zEv ph d 91 4 L st M = zcont ph d 91 (zstep ph (zEm ph d) 70 7 104 [1, 0, 25] L st M) := zEv_step rfl
theorem e91_7 (ph : Bool) (d : Nat) (L st : List zV) (M : zM) : zEv ph d 91 7 L st M = zcont ph d 91 (zstep ph (zEm ph d) 4 8 0 [0] L st M) := zEv_step rfl
theorem e91_8 (ph : Bool) (d : Nat) (L st : List zV) (M : zM) : zEv ph d 91 8 L st M = zcont ph d 91 (zstep ph (zEm ph d) 62 11 0 [24, 0, 1, 27, 0] L st M) := zEv_step rfl
theorem e91_11 (ph : Bool) (d : Nat) (L st : List zV) (M : zM) : zEv ph d 91 11 L st M = zcont ph d 91 (zstep ph (zEm ph d) 0 14 0 [200] L st M) := zEv_step rfl
theorem e91_14 (ph : Bool) (d : Nat) (L st : List zV) (M : zM) : zEv ph d 91 14 L st M = zcont ph d 91 (zstep ph (zEm ph d) 70 17 137 [2, 0, 27] L st M) := zEv_step rfl
theorem e91_17 (ph : Bool) (d : Nat) (L st : List zV) (M : zM) : zEv ph d 91 17 L st M = zcont ph d 91 (zstep ph (zEm ph d) 4 18 0 [0] L st M) := zEv_step rfl
theorem e91_18 (ph : Bool) (d : Nat) (L st : List zV) (M : zM) : zEv ph d 91 18 L st M = zcont ph d 91 (zstep ph (zEm ph d) 4 19 0 [1] L st M) := zEv_step rfl
theorem e91_19 (ph : Bool) (d : Nat) (L st : List zV) (M : zM) : zEv ph d 91 19 L st M = zcont ph d 91 (zstep ph (zEm ph d) 0 20 0 [1] L st M) := zEv_step rfl
theorem e91_20 (ph : Bool) (d : Nat) (L st : List zV) (M : zM) : zEv ph d 91 20 L st M = zcont ph d 91 (zstep ph (zEm ph d) 70 23 92 [3, 1, 24] L st M) := zEv_step rfl
theorem e91_23 (ph : Bool) (d : Nat) (L st : List zV) (M : zM) : zEv ph d 91 23 L st M = zcont ph d 91 (zstep ph (zEm ph d) 40 26 40 [] L st M) := zEv_step rfl
theorem e91_26 (ph : Bool) (d : Nat) (L st : List zV) (M : zM) : zEv ph d 91 26 L st M = zcont ph d 91 (zstep ph (zEm ph d) 4 27 0 [0] L st M) := zEv_step rfl
theorem e91_27 (ph : Bool) (d : Nat) (L st : List zV) (M : zM) : zEv ph d 91 27 L st M = zcont ph d 91 (zstep ph (zEm ph d) 62 30 0 [24, 0, 1, 27, 0] L st M) := zEv_step rfl
theorem e91_30 (ph : Bool) (d : Nat) (L st : List zV) (M : zM) : zEv ph d 91 30 L st M = zcont ph d 91 (zstep ph (zEm ph d) 70 33 139 [1, 1, 27] L st M) := zEv_step rfl
theorem e91_33 (ph : Bool) (d : Nat) (L st : List zV) (M : zM) : zEv ph d 91 33 L st M = zcont ph d 91 (zstep ph (zEm ph d) 40 36 40 [] L st M) := zEv_step rfl
theorem e91_36 (ph : Bool) (d : Nat) (L st : List zV) (M : zM) : zEv ph d 91 36 L st M = zcont ph d 91 (zstep ph (zEm ph d) 0 37 0 [1] L st M) := zEv_step rfl
theorem e91_37 (ph : Bool) (d : Nat) (L st : List zV) (M : zM) : zEv ph d 91 37 L st M = zcont ph d 91 (zstep ph (zEm ph d) 52 40 41 [] L st M) := zEv_step rfl
theorem e91_40 (ph : Bool) (d : Nat) (L st : List zV) (M : zM) : zEv ph d 91 40 L st M = zcont ph d 91 (zstep ph (zEm ph d) 0 41 0 [0] L st M) := zEv_step rfl
theorem e91_41 (ph : Bool) (d : Nat) (L st : List zV) (M : zM) : zEv ph d 91 41 L st M = zcont ph d 91 (zstep ph (zEm ph d) 80 42 0 [0, 1] L st M) := zEv_step rfl
theorem m92 (ph : Bool) (d : Nat) (a x0 p0 y0 p1 y1 : Int) (M : zM) : zEm ph (d + 1) 92 [(24, a, x0), (28, p0, y0), (0, p1, y1)] M = zEv ph d 92 0 [(24, a, x0), (28, p0, y0), (0, p1, y1), (3, 0, 0)] [] M := rfl
theorem e92_0 (ph : Bool) (d : Nat) (L st : List zV) (M : zM) : zEv ph d 92 0 L st M = zcont ph d 92 (zstep ph (zEm ph d) 4 1 0 [0] L st M) := zEv_step rfl
theorem e92_1 (ph : Bool) (d : Nat) (L st : List zV) (M : zM) : zEv ph d 92 1 L st M = zcont ph d 92 (zstep ph (zEm ph d) 4 2 0 [1] L st M) := zEv_step rfl
theorem e92_2 (ph : Bool) (d : Nat) (L st : List zV) (M : zM) : zEv ph d 92 2 L st M = zcont ph d 92 (zstep ph (zEm ph d) 2 3 0 [2] L st M) := zEv_step rfl
theorem e92_3 (ph : Bool) (d : Nat) (L st : List zV) (M : zM) : zEv ph d 92 3 L st M = zcont ph d 92 (zstep ph (zEm ph d) 70 6 93 [3, 1, 24] L st M) := zEv_step rfl
theorem e92_6 (ph : Bool) (d : Nat) (L st : List zV) (M : zM) : zEv ph d 92 6 L st M = zcont ph d 92 (zstep ph (zEm ph d) 41 9 11 [] L st M) := zEv_step rfl
theorem e92_9 (ph : Bool) (d : Nat) (L st : List zV) (M : zM) : zEv ph d 92 9 L st M = zcont ph d 92 (zstep ph (zEm ph d) 0 10 0 [0] L st M) := zEv_step rfl
theorem e92_10 (ph : Bool) (d : Nat) (L st : List zV) (M : zM) : zEv ph d 92 10 L st M = zcont ph d 92 (zstep ph (zEm ph d) 80 11 0 [0, 1] L st M) := zEv_step rfl
theorem e92_11 (ph : Bool) (d : Nat) (L st : List zV) (M : zM) : zEv ph d 92 11 L st M = zcont ph d 92 (zstep ph (zEm ph d) 0 12 0 [0] L st M) := zEv_step rfl
theorem e92_12 (ph : Bool) (d : Nat) (L st : List zV) (M : zM) : zEv ph d 92 12 L st M = zcont ph d 92 (zstep ph (zEm ph d) 5 13 0 [3] L st M) := zEv_step rfl
theorem e92_13 (ph : Bool) (d : Nat) (L st : List zV) (M : zM) : zEv ph d 92 13 L st M = zcont ph d 92 (zstep ph (zEm ph d) 2 14 0 [3] L st M) := zEv_step rfl
theorem e92_14 (ph : Bool) (d : Nat) (L st : List zV) (M : zM) : zEv ph d 92 14 L st M = zcont ph d 92 (zstep ph (zEm ph d) 0 16 0 [20] L st M) := zEv_step rfl
theorem e92_16 (ph : Bool) (d : Nat) (L st : List zV) (M : zM) : zEv ph d 92 16 L st M = zcont ph d 92 (zstep ph (zEm ph d) 49 19 69 [] L st M) := zEv_step rfl
theorem e92_19 (ph : Bool) (d : Nat) (L st : List zV) (M : zM) : zEv ph d 92 19 L st M = zcont ph d 92 (zstep ph (zEm ph d) 4 20 0 [0] L st M) := zEv_step rfl
theorem e92_20 (ph : Bool) (d : Nat) (L st : List zV) (M : zM) : zEv ph d 92 20 L st M = zcont ph d 92 (zstep ph (zEm ph d) 62 23 0 [24, 0, 1, 27, 0] L st M) := zEv_step rfl
theorem e92_23 (ph : Bool) (d : Nat) (L st : List zV) (M : zM) : zEv ph d 92 23 L st M = zcont ph d 92 (zstep ph (zEm ph d) 63 26 0 [27, 7] L st M) := zEv_step rfl
theorem e92_26 (ph : Bool) (d : Nat) (L st : List zV) (M : zM) : zEv ph d 92 26 L st M = zcont ph d 92 (zstep ph (zEm ph d) 77 29 0 [25] L st M) := zEv_step rfl
theorem e92_29 (ph : Bool) (d : Nat) (L st : List zV) (M : zM) : zEv ph d 92 29 L st M = zcont ph d 92 (zstep ph (zEm ph d) 54 32 69 [] L st M) := zEv_step rfl
theorem e92_32 (ph : Bool) (d : Nat) (L st : List zV) (M : zM) : zEv ph d 92 32 L st M = zcont ph d 92 (zstep ph (zEm ph d) 4 33 0 [0] L st M) := zEv_step rfl
theorem e92_33 (ph : Bool) (d : Nat) (L st : List zV) (M : zM) : zEv ph d 92 33 L st M = zcont ph d 92 (zstep ph (zEm ph d) 62 36 0 [24, 0, 1, 27, 0] L st M) := zEv_step rfl
theorem e92_36 (ph : Bool) (d : Nat) (L st : List zV) (M : zM) : zEv ph d 92 36 L st M = zcont ph d 92 (zstep ph (zEm ph d) 70 39 141 [1, 0, 27] L st M) := zEv_step rfl
theorem e92_39 (ph : Bool) (d : Nat) (L st : List zV) (M : zM) : zEv ph d 92 39 L st M = zcont ph d 92 (zstep ph (zEm ph d) 4 40 0 [0] L st M) := zEv_step rfl
theorem e92_40 (ph : Bool) (d : Nat) (L st : List zV) (M : zM) : zEv ph d 92 40 L st M = zcont ph d 92 (zstep ph (zEm ph d) 4 41 0 [1] L st M) := zEv_step rfl
theorem e92_41 (ph : Bool) (d : Nat) (L st : List zV) (M : zM) : zEv ph d 92 41 L st M = zcont ph d 92 (zstep ph (zEm ph d) 2 42 0 [2] L st M) := zEv_step rfl
theorem e92_42 (ph : Bool) (d : Nat) (L st : List zV) (M : zM) : zEv ph d 92 42 L st M = zcont ph d 92 (zstep ph (zEm ph d) 70 45 93 [3, 1, 24] L st M) := zEv_step rfl
theorem e92_45 (ph : Bool) (d : Nat) (L st : List zV) (M : zM) : zEv ph d 92 45 L st M = zcont ph d 92 (zstep ph (zEm ph d) 40 48 61 [] L st M) := zEv_step rfl
theorem e92_48 (ph : Bool) (d : Nat) (L st : List zV) (M : zM) : zEv ph d 92 48 L st M = zcont ph d 92 (zstep ph (zEm ph d) 4 49 0 [0] L st M) := zEv_step rfl
theorem e92_49 (ph : Bool) (d : Nat) (L st : List zV) (M : zM) : zEv ph d 92 49 L st M = zcont ph d 92 (zstep ph (zEm ph d) 62 52 0 [24, 3, 19, 25, 0] L st M) := zEv_step rfl
theorem e92_52 (ph : Bool) (d : Nat) (L st : List zV) (M : zM) : zEv ph d 92 52 L st M = zcont ph d 92 (zstep ph (zEm ph d) 0 53 0 [0] L st M) := zEv_step rfl
theorem e92_53 (ph : Bool) (d : Nat) (L st : List zV) (M : zM) : zEv ph d 92 53 L st M = zcont ph d 92 (zstep ph (zEm ph d) 0 54 0 [0] L st M) := zEv_step rfl
theorem e92_54 (ph : Bool) (d : Nat) (L st : List zV) (M : zM) : zEv ph d 92 54 L st M = zcont ph d 92 (zstep ph (zEm ph d) 0 55 0 [0] L st M) := zEv_step rfl
theorem e92_55 (ph : Bool) (d : Nat) (L st : List zV) (M : zM) : zEv ph d 92 55 L st M = zcont ph d 92 (zstep ph (zEm ph d) 70 58 106 [4, 1, 25] L st M) := zEv_step rfl
theorem e92_58 (ph : Bool) (d : Nat) (L st : List zV) (M : zM) : zEv ph d 92 58 L st M = zcont ph d 92 (zstep ph (zEm ph d) 41 61 63 [] L st M) := zEv_step rfl
theorem e92_61 (ph : Bool) (d : Nat) (L st : List zV) (M : zM) : zEv ph d 92 61 L st M = zcont ph d 92 (zstep ph (zEm ph d) 0 62 0 [0] L st M) := zEv_step rfl
theorem e92_62 (ph : Bool) (d : Nat) (L st : List zV) (M : zM) : zEv ph d 92 62 L st M = zcont ph d 92 (zstep ph (zEm ph d) 80 63 0 [0, 1] L st M) := zEv_step rfl
theorem e92_63 (ph : Bool) (d : Nat) (L st : List zV) (M : zM) : zEv ph d 92 63 L st M = zcont ph d 92 (zstep ph (zEm ph d) 8 66 0 [3, 1] L st M) := zEv_step rfl
theorem e92_66 (ph : Bool) (d : Nat) (L st : List zV) (M : zM) : zEv ph d 92 66 L st M = zcont ph d 92 (zstep ph (zEm ph d) 52 69 13 [] L st M) := zEv_step rfl
theorem e92_69 (ph : Bool) (d : Nat) (L st : List zV) (M : zM) : zEv ph d 92 69 L st M = zcont ph d 92 (zstep ph (zEm ph d) 0 70 0 [1] L st M) := zEv_step rfl
theorem e92_70 (ph : Bool) (d : Nat) (L st : List zV) (M : zM) : zEv ph d 92 70 L st M = zcont ph d 92 (zstep ph (zEm ph d) 80 71 0 [0, 1] L st M) := zEv_step rfl
theorem m93 (ph : Bool) (d : Nat) (a x0 p0 y0 p1 y1 : Int) (M : zM) : zEm ph (d + 1) 93 [(24, a, x0), (28, p0, y0), (0, p1, y1)] M = zEv ph d 93 0 [(24, a, x0), (28, p0, y0), (0, p1, y1), (3, 0, 0)] [] M := rfl
theorem e93_0 (ph : Bool) (d : Nat) (L st : List zV) (M : zM) : zEv ph d 93 0 L st M = zcont ph d 93 (zstep ph (zEm ph d) 4 1 0 [0] L st M) := zEv_step rfl
theorem e93_1 (ph : Bool) (d : Nat) (L st : List zV) (M : zM) : zEv ph d 93 1 L st M = zcont ph d 93 (zstep ph (zEm ph d) 4 2 0 [1] L st M) := zEv_step rfl
theorem e93_2 (ph : Bool) (d : Nat) (L st : List zV) (M : zM) : zEv ph d 93 2 L st M = zcont ph d 93 (zstep ph (zEm ph d) 2 3 0 [2] L st M) := zEv_step rfl
theorem e93_3 (ph : Bool) (d : Nat) (L st : List zV) (M : zM) : zEv ph d 93 3 L st M = zcont ph d 93 (zstep ph (zEm ph d) 70 6 94 [3, 1, 24] L st M) := zEv_step rfl
theorem e93_6 (ph : Bool) (d : Nat) (L st : List zV) (M : zM) : zEv ph d 93 6 L st M = zcont ph d 93 (zstep ph (zEm ph d) 41 9 11 [] L st M) := zEv_step rfl
theorem e93_9 (ph : Bool) (d : Nat) (L st : List zV) (M : zM) : zEv ph d 93 9 L st M = zcont ph d 93 (zstep ph (zEm ph d) 0 10 0 [0] L st M) := zEv_step rfl
theorem e93_10 (ph : Bool) (d : Nat) (L st : List zV) (M : zM) : zEv ph d 93 10 L st M = zcont ph d 93 (zstep ph (zEm ph d) 80 11 0 [0, 1] L st M) := zEv_step rfl
theorem e93_11 (ph : Bool) (d : Nat) (L st : List zV) (M : zM) : zEv ph d 93 11 L st M = zcont ph d 93 (zstep ph (zEm ph d) 0 12 0 [0] L st M) := zEv_step rfl
theorem e93_12 (ph : Bool) (d : Nat) (L st : List zV) (M : zM) : zEv ph d 93 12 L st M = zcont ph d 93 (zstep ph (zEm ph d) 5 13 0 [3] L st M) := zEv_step rfl
theorem e93_13 (ph : Bool) (d : Nat) (L st : List zV) (M : zM) : zEv ph d 93 13 L st M = zcont ph d 93 (zstep ph (zEm ph d) 2 14 0 [3] L st M) := zEv_step rfl
theorem e93_14 (ph : Bool) (d : Nat) (L st : List zV) (M : zM) : zEv ph d 93 14 L st M = zcont ph d 93 (zstep ph (zEm ph d) 0 16 0 [20] L st M) := zEv_step rfl
theorem e93_16 (ph : Bool) (d : Nat) (L st : List zV) (M : zM) : zEv ph d 93 16 L st M = zcont ph d 93 (zstep ph (zEm ph d) 49 19 69 [] L st M) := zEv_step rfl
theorem e93_19 (ph : Bool) (d : Nat) (L st : List zV) (M : zM) : zEv ph d 93 19 L st M = zcont ph d 93 (zstep ph (zEm ph d) 4 20 0 [0] L st M) := zEv_step rfl
theorem e93_20 (ph : Bool) (d : Nat) (L st : List zV) (M : zM) : zEv ph d 93 20 L st M = zcont ph d 93 (zstep ph (zEm ph d) 62 23 0 [24, 0, 1, 27, 0] L st M) := zEv_step rfl
theorem e93_23 (ph : Bool) (d : Nat) (L st : List zV) (M : zM) : zEv ph d 93 23 L st M = zcont ph d 93 (zstep ph (zEm ph d) 63 26 0 [27, 7] L st M) := zEv_step rfl
theorem e93_26 (ph : Bool) (d : Nat) (L st : List zV) (M : zM) : zEv ph d 93 26 L st M = zcont ph d 93 (zstep ph (zEm ph d) 77 29 0 [26] L st M) := zEv_step rfl
theorem e93_29 (ph : Bool) (d : Nat) (L st : List zV) (M : zM) : zEv ph d 93 29 L st M = zcont ph d 93 (zstep ph (zEm ph d) 54 32 69 [] L st M) := zEv_step rfl
theorem e93_32 (ph : Bool) (d : Nat) (L st : List zV) (M : zM) : zEv ph d 93 32 L st M = zcont ph d 93 (zstep ph (zEm ph d) 4 33 0 [0] L st M) := zEv_step rfl
theorem e93_33 (ph : Bool) (d : Nat) (L st : List zV) (M : zM) : zEv ph d 93 33 L st M = zcont ph d 93 (zstep ph (zEm ph d) 62 36 0 [24, 0, 1, 27, 0] L st M) := zEv_step rfl
theorem e93_36 (ph : Bool) (d : Nat) (L st : List zV) (M : zM) : zEv ph d 93 36 L st M = zcont ph d 93 (zstep ph (zEm ph d) 70 39 141 [1, 0, 27] L st M) := zEv_step rfl
theorem e93_39 (ph : Bool) (d : Nat) (L st : List zV) (M : zM) : zEv ph d 93 39 L st M = zcont ph d 93 (zstep ph (zEm ph d) 4 40 0 [0] L st M) := zEv_step rfl
theorem e93_40 (ph : Bool) (d : Nat) (L st : List zV) (M : zM) : zEv ph d 93 40 L st M = zcont ph d 93 (zstep ph (zEm ph d) 4 41 0 [1] L st M) := zEv_step rfl
theorem e93_41 (ph : Bool) (d : Nat) (L st : List zV) (M : zM) : zEv ph d 93 41 L st M = zcont ph d 93 (zstep ph (zEm ph d) 2 42 0 [2] L st M) := zEv_step rfl
theorem e93_42 (ph : Bool) (d : Nat) (L st : List zV) (M : zM) : zEv ph d 93 42 L st M = zcont ph d 93 (zstep ph (zEm ph d) 70 45 94 [3, 1, 24] L st M) := zEv_step rfl
theorem e93_45 (ph : Bool) (d : Nat) (L st : List zV) (M : zM) : zEv ph d 93 45 L st M = zcont ph d 93 (zstep ph (zEm ph d) 40 48 61 [] L st M) := zEv_step rfl
theorem e93_48 (ph : Bool) (d : Nat) (L st : List zV) (M : zM) : zEv ph d 93 48 L st M = zcont ph d 93 (zstep ph (zEm ph d) 4 49 0 [0] L st M) := zEv_step rfl
theorem e93_49 (ph : Bool) (d : Nat) (L st : List zV) (M : zM) : zEv ph d 93 49 L st M = zcont ph d 93 (zstep ph (zEm ph d) 62 52 0 [24, 3, 19, 25, 0] L st M) := zEv_step rfl
theorem e93_52 (ph : Bool) (d : Nat) (L st : List zV) (M : zM) : zEv ph d 93 52 L st M = zcont ph d 93 (zstep ph (zEm ph d) 0 53 0 [1] L st M) := zEv_step rfl
theorem e93_53 (ph : Bool) (d : Nat) (L st : List zV) (M : zM) : zEv ph d 93 53 L st M = zcont ph d 93 (zstep ph (zEm ph d) 0 54 0 [0] L st M) := zEv_step rfl
theorem e93_54 (ph : Bool) (d : Nat) (L st : List zV) (M : zM) : zEv ph d 93 54 L st M = zcont ph d 93 (zstep ph (zEm ph d) 0 55 0 [0] L st M) := zEv_step rfl
theorem e93_55 (ph : Bool) (d : Nat) (L st : List zV) (M : zM) : zEv ph d 93 55 L st M = zcont ph d 93 (zstep ph (zEm ph d) 70 58 106 [4, 1, 25] L st M) := zEv_step rfl
theorem e93_58 (ph : Bool) (d : Nat) (L st : List zV) (M : zM) : zEv ph d 93 58 L st M = zcont ph d 93 (zstep ph (zEm ph d) 41 61 63 [] L st M) := zEv_step rfl
theorem e93_61 (ph : Bool) (d : Nat) (L st : List zV) (M : zM) : zEv ph d 93 61 L st M = zcont ph d 93 (zstep ph (zEm ph d) 0 62 0 [0] L st M) := zEv_step rfl
theorem e93_62 (ph : Bool) (d : Nat) (L st : List zV) (M : zM) : zEv ph d 93 62 L st M = zcont ph d 93 (zstep ph (zEm ph d) 80 63 0 [0, 1] L st M) := zEv_step rfl
theorem e93_63 (ph : Bool) (d : Nat) (L st : List zV) (M : zM) : zEv ph d 93 63 L st M = zcont ph d 93 (zstep ph (zEm ph d) 8 66 0 [3, 1] L st M) := zEv_step rfl
theorem e93_66 (ph : Bool) (d : Nat) (L st : List zV) (M : zM) : zEv ph d 93 66 L st M = zcont ph d 93 (zstep ph (zEm ph d) 52 69 13 [] L st M) := zEv_step rfl
theorem e93_69 (ph : Bool) (d : Nat) (L st : List zV) (M : zM) : zEv ph d 93 69 L st M = zcont ph d 93 (zstep ph (zEm ph d) 0 70 0 [1] L st M) := zEv_step rfl
theorem e93_70 (ph : Bool) (d : Nat) (L st : List zV) (M : zM) : zEv ph d 93 70 L st M = zcont ph d 93 (zstep ph (zEm ph d) 80 71 0 [0, 1] L st M) := zEv_step rfl
theorem m94 (ph : Bool) (d : Nat) (a x0 p0 y0 p1 y1 : Int) (M : zM) : zEm ph (d + 1) 94 [(24, a, x0), (28, p0, y0), (0, p1, y1)] M = zEv ph d 94 0 [(24, a, x0), (28, p0, y0), (0, p1, y1), (3, 0, 0)] [] M := rfl
theorem e94_0 (ph : Bool) (d : Nat) (L st : List zV) (M : zM) : zEv ph d 94 0 L st M = zcont ph d 94 (zstep ph (zEm ph d) 4 1 0 [0] L st M) := zEv_step rfl
theorem e94_1 (ph : Bool) (d : Nat) (L st : List zV) (M : zM) : zEv ph d 94 1 L st M = zcont ph d 94 (zstep ph (zEm ph d) 70 4 95 [1, 1, 24] L st M) := zEv_step rfl
theorem e94_4 (ph : Bool) (d : Nat) (L st : List zV) (M : zM) : zEv ph d 94 4 L st M = zcont ph d 94 (zstep ph (zEm ph d) 41 7 16 [] L st M) := zEv_step rfl
theorem e94_7 (ph : Bool) (d : Nat) (L st : List zV) (M : zM) : zEv ph d 94 7 L st M = zcont ph d 94 (zstep ph (zEm ph d) 4 8 0 [0] L st M) := zEv_step rfl
theorem e94_8 (ph : Bool) (d : Nat) (L st : List zV) (M : zM) : zEv ph d 94 8 L st M = zcont ph d 94 (zstep ph (zEm ph d) 62 11 0 [24, 0, 1, 27, 0] L st M) := zEv_step rfl
theorem e94_11 (ph : Bool) (d : Nat) (L st : List zV) (M : zM) : zEv ph d 94 11 L st M = zcont ph d 94 (zstep ph (zEm ph d) 0 12 0 [1] L st M) := zEv_step rfl
theorem e94_12 (ph : Bool) (d : Nat) (L st : List zV) (M : zM) : zEv ph d 94 12 L st M = zcont ph d 94 (zstep ph (zEm ph d) 70 15 140 [2, 1, 27] L st M) := zEv_step rfl
theorem e94_15 (ph : Bool) (d : Nat) (L st : List zV) (M : zM) : zEv ph d 94 15 L st M = zcont ph d 94 (zstep ph (zEm ph d) 80 16 0 [0, 1] L st M) := zEv_step rfl
theorem e94_16 (ph : Bool) (d : Nat) (L st : List zV) (M : zM) : zEv ph d 94 16 L st M = zcont ph d 94 (zstep ph (zEm ph d) 4 17 0 [0] L st M) := zEv_step rfl
theorem e94_17 (ph : Bool) (d : Nat) (L st : List zV) (M : zM) : zEv ph d 94 17 L st M = zcont ph d 94 (zstep ph (zEm ph d) 62 20 0 [24, 3, 19, 25, 0] L st M) := zEv_step rfl
theorem e94_20 (ph : Bool) (d : Nat) (L st : List zV) (M : zM) : zEv ph d 94 20 L st M = zcont ph d 94 (zstep ph (zEm ph d) 60 23 0 [25, 5] L st M) := zEv_step rfl
theorem e94_23 (ph : Bool) (d : Nat) (L st : List zV) (M : zM) : zEv ph d 94 23 L st M = zcont ph d 94 (zstep ph (zEm ph d) 0 25 0 [20] L st M) := zEv_step rfl
theorem e94_25 (ph : Bool) (d : Nat) (L st : List zV) (M : zM) : zEv ph d 94 25 L st M = zcont ph d 94 (zstep ph (zEm ph d) 49 28 34 [] L st M) := zEv_step rfl
theorem e94_28 (ph : Bool) (d : Nat) (L st : List zV) (M : zM) : zEv ph d 94 28 L st M = zcont ph d 94 (zstep ph (zEm ph d) 2 29 0 [2] L st M) := zEv_step rfl
theorem e94_29 (ph : Bool) (d : Nat) (L st : List zV) (M : zM) : zEv ph d 94 29 L st M = zcont ph d 94 (zstep ph (zEm ph d) 0 31 0 [8] L st M) := zEv_step rfl
theorem e94_31 (ph : Bool) (d : Nat) (L st : List zV) (M : zM) : zEv ph d 94 31 L st M = zcont ph d 94 (zstep ph (zEm ph d) 51 34 43 [] L st M) := zEv_step rfl
theorem e94_34 (ph : Bool) (d : Nat) (L st : List zV) (M : zM) : zEv ph d 94 34 L st M = zcont ph d 94 (zstep ph (zEm ph d) 4 35 0 [0] L st M) := zEv_step rfl
theorem e94_35 (ph : Bool) (d : Nat) (L st : List zV) (M : zM) : zEv ph d 94 35 L st M = zcont ph d 94 (zstep ph (zEm ph d) 62 38 0 [24, 0, 1, 27, 0] L st M) := zEv_step rfl
theorem e94_38 (ph : Bool) (d : Nat) (L st : List zV) (M : zM) : zEv ph d 94 38 L st M = zcont ph d 94 (zstep ph (zEm ph d) 0 39 0 [4] L st M) := zEv_step rfl
theorem e94_39 (ph : Bool) (d : Nat) (L st : List zV) (M : zM) : zEv ph d 94 39 L st M = zcont ph d 94 (zstep ph (zEm ph d) 70 42 140 [2, 1, 27] L st M) := zEv_step rfl
theorem e94_42 (ph : Bool) (d : Nat) (L st : List zV) (M : zM) : zEv ph d 94 42 L st M = zcont ph d 94 (zstep ph (zEm ph d) 80 43 0 [0, 1] L st M) := zEv_step rfl
theorem e94_43 (ph : Bool) (d : Nat) (L st : List zV) (M : zM) : zEv ph d 94 43 L st M = zcont ph d 94 (zstep ph (zEm ph d) 4 44 0 [0] L st M) := zEv_step rfl
theorem e94_44 (ph : Bool) (d : Nat) (L st : List zV) (M : zM) : zEv ph d 94 44 L st M = zcont ph d 94 (zstep ph (zEm ph d) 62 47 0 [24, 3, 19, 25, 0] L st M) := zEv_step rfl
theorem e94_47 (ph : Bool) (d : Nat) (L st : List zV) (M : zM) : zEv ph d 94 47 L st M = zcont ph d 94 (zstep ph (zEm ph d) 36 48 0 [] L st M) := zEv_step rfl
theorem e94_48 (ph : Bool) (d : Nat) (L st : List zV) (M : zM) : zEv ph d 94 48 L st M = zcont ph d 94 (zstep ph (zEm ph d) 60 51 0 [25, 5] L st M) := zEv_step rfl
theorem e94_51 (ph : Bool) (d : Nat) (L st : List zV) (M : zM) : zEv ph d 94 51 L st M = zcont ph d 94 (zstep ph (zEm ph d) 0 52 0 [1] L st M) := zEv_step rfl
theorem e94_52 (ph : Bool) (d : Nat) (L st : List zV) (M : zM) : zEv ph d 94 52 L st M = zcont ph d 94 (zstep ph (zEm ph d) 10 53 0 [] L st M) := zEv_step rfl
theorem e94_53 (ph : Bool) (d : Nat) (L st : List zV) (M : zM) : zEv ph d 94 53 L st M = zcont ph d 94 (zstep ph (zEm ph d) 65 56 0 [25, 5] L st M) := zEv_step rfl
theorem e94_56 (ph : Bool) (d : Nat) (L st : List zV) (M : zM) : zEv ph d 94 56 L st M = zcont ph d 94 (zstep ph (zEm ph d) 4 57 0 [0] L st M) := zEv_step rfl
theorem e94_57 (ph : Bool) (d : Nat) (L st : List zV) (M : zM) : zEv ph d 94 57 L st M = zcont ph d 94 (zstep ph (zEm ph d) 62 60 0 [24, 0, 1, 27, 0] L st M) := zEv_step rfl
theorem e94_60 (ph : Bool) (d : Nat) (L st : List zV) (M : zM) : zEv ph d 94 60 L st M = zcont ph d 94 (zstep ph (zEm ph d) 63 63 0 [27, 7] L st M) := zEv_step rfl
theorem e94_63 (ph : Bool) (d : Nat) (L st : List zV) (M : zM) : zEv ph d 94 63 L st M = zcont ph d 94 (zstep ph (zEm ph d) 7 64 0 [3] L st M) := zEv_step rfl
theorem e94_64 (ph : Bool) (d : Nat) (L st : List zV) (M : zM) : zEv ph d 94 64 L st M = zcont ph d 94 (zstep ph (zEm ph d) 4 65 0 [0] L st M) := zEv_step rfl
theorem e94_65 (ph : Bool) (d : Nat) (L st : List zV) (M : zM) : zEv ph d 94 65 L st M = zcont ph d 94 (zstep ph (zEm ph d) 62 68 0 [24, 0, 1, 27, 0] L st M) := zEv_step rfl
theorem e94_68 (ph : Bool) (d : Nat) (L st : List zV) (M : zM) : zEv ph d 94 68 L st M = zcont ph d 94 (zstep ph (zEm ph d) 70 71 141 [1, 0, 27] L st M) := zEv_step rfl
theorem e94_71 (ph : Bool) (d : Nat) (L st : List zV) (M : zM) : zEv ph d 94 71 L st M = zcont ph d 94 (zstep ph (zEm ph d) 78 74 0 [0, 34] L st M) := zEv_step rfl
theorem e94_74 (ph : Bool) (d : Nat) (L st : List zV) (M : zM) : zEv ph d 94 74 L st M = zcont ph d 94 (zstep ph (zEm ph d) 4 75 0 [3] L st M) := zEv_step rfl
theorem e94_75 (ph : Bool) (d : Nat) (L st : List zV) (M : zM) : zEv ph d 94 75 L st M = zcont ph d 94 (zstep ph (zEm ph d) 76 78 0 [] L st M) := zEv_step rfl
theorem e94_78 (ph : Bool) (d : Nat) (L st : List zV) (M : zM) : zEv ph d 94 78 L st M = zcont ph d 94 (zstep ph (zEm ph d) 85 79 0 [] L st M) := zEv_step rfl
theorem e94_79 (ph : Bool) (d : Nat) (a y : Int) (L st : List zV) (M : zM) : zEv ph d 94 79 L ((0, a, y) :: st) M = dite (a = 10) (fun _ => zEv ph d 94 128 L st M) (fun _ => dite (a = 11) (fun _ => zEv ph d 94 158 L st M) (fun _ => dite (a = 12) (fun _ => zEv ph d 94 169 L st M) (fun _ => dite (a = 13) (fun _ => zEv ph d 94 180 L st M) (fun _ => dite (a = 14) (fun _ => zEv ph d 94 194 L st M) (fun _ => dite (a = 15) (fun _ => zEv ph d 94 209 L st M) (fun _ => dite (a = 16) (fun _ => zEv ph d 94 224 L st M) (fun _ => dite (a = 17) (fun _ => zEv ph d 94 231 L st M) (fun _ => dite (a = 18) (fun _ => zEv ph d 94 238 L st M) (fun _ => zEv ph d 94 245 L st M))))))))) := (zEv_step (op := 56) (nx := 128) (tg := 245) (r := [10, 128, 158, 169, 180, 194, 209, 224, 231, 238]) rfl).trans (zts9 (fun q => zEv ph d 94 q L st M))
theorem e94_128 (ph : Bool) (d : Nat) (L st : List zV) (M : zM) : zEv ph d 94 128 L st M = zcont ph d 94 (zstep ph (zEm ph d) 4 129 0 [0] L st M) := zEv_step rfl
theorem e94_129 (ph : Bool) (d : Nat) (L st : List zV) (M : zM) : zEv ph d 94 129 L st M = zcont ph d 94 (zstep ph (zEm ph d) 4 130 0 [1] L st M) := zEv_step rfl
theorem e94_130 (ph : Bool) (d : Nat) (L st : List zV) (M : zM) : zEv ph d 94 130 L st M = zcont ph d 94 (zstep ph (zEm ph d) 2 131 0 [2] L st M) := zEv_step rfl
theorem e94_131 (ph : Bool) (d : Nat) (L st : List zV) (M : zM) : zEv ph d 94 131 L st M = zcont ph d 94 (zstep ph (zEm ph d) 0 132 0 [1] L st M) := zEv_step rfl
theorem e94_132 (ph : Bool) (d : Nat) (L st : List zV) (M : zM) : zEv ph d 94 132 L st M = zcont ph d 94 (zstep ph (zEm ph d) 10 133 0 [] L st M) := zEv_step rfl
theorem e94_133 (ph : Bool) (d : Nat) (L st : List zV) (M : zM) : zEv ph d 94 133 L st M = zcont ph d 94 (zstep ph (zEm ph d) 70 136 94 [3, 1, 24] L st M) := zEv_step rfl
theorem e94_136 (ph : Bool) (d : Nat) (L st : List zV) (M : zM) : zEv ph d 94 136 L st M = zcont ph d 94 (zstep ph (zEm ph d) 40 139 156 [] L st M) := zEv_step rfl
theorem e94_139 (ph : Bool) (d : Nat) (L st : List zV) (M : zM) : zEv ph d 94 139 L st M = zcont ph d 94 (zstep ph (zEm ph d) 4 140 0 [0] L st M) := zEv_step rfl
theorem e94_140 (ph : Bool) (d : Nat) (L st : List zV) (M : zM) : zEv ph d 94 140 L st M = zcont ph d 94 (zstep ph (zEm ph d) 62 143 0 [24, 3, 19, 25, 0] L st M) := zEv_step rfl
theorem e94_143 (ph : Bool) (d : Nat) (L st : List zV) (M : zM) : zEv ph d 94 143 L st M = zcont ph d 94 (zstep ph (zEm ph d) 0 144 0 [2] L st M) := zEv_step rfl
theorem e94_144 (ph : Bool) (d : Nat) (L st : List zV) (M : zM) : zEv ph d 94 144 L st M = zcont ph d 94 (zstep ph (zEm ph d) 0 145 0 [0] L st M) := zEv_step rfl
theorem e94_145 (ph : Bool) (d : Nat) (L st : List zV) (M : zM) : zEv ph d 94 145 L st M = zcont ph d 94 (zstep ph (zEm ph d) 0 146 0 [0] L st M) := zEv_step rfl
theorem e94_146 (ph : Bool) (d : Nat) (L st : List zV) (M : zM) : zEv ph d 94 146 L st M = zcont ph d 94 (zstep ph (zEm ph d) 70 149 106 [4, 1, 25] L st M) := zEv_step rfl
theorem e94_149 (ph : Bool) (d : Nat) (L st : List zV) (M : zM) : zEv ph d 94 149 L st M = zcont ph d 94 (zstep ph (zEm ph d) 40 152 156 [] L st M) := zEv_step rfl
theorem e94_152 (ph : Bool) (d : Nat) (L st : List zV) (M : zM) : zEv ph d 94 152 L st M = zcont ph d 94 (zstep ph (zEm ph d) 0 153 0 [1] L st M) := zEv_step rfl
theorem e94_153 (ph : Bool) (d : Nat) (L st : List zV) (M : zM) : zEv ph d 94 153 L st M = zcont ph d 94 (zstep ph (zEm ph d) 52 156 157 [] L st M) := zEv_step rfl
theorem e94_156 (ph : Bool) (d : Nat) (L st : List zV) (M : zM) : zEv ph d 94 156 L st M = zcont ph d 94 (zstep ph (zEm ph d) 0 157 0 [0] L st M) := zEv_step rfl
theorem e94_157 (ph : Bool) (d : Nat) (L st : List zV) (M : zM) : zEv ph d 94 157 L st M = zcont ph d 94 (zstep ph (zEm ph d) 80 158 0 [0, 1] L st M) := zEv_step rfl
theorem e94_158 (ph : Bool) (d : Nat) (L st : List zV) (M : zM) : zEv ph d 94 158 L st M = zcont ph d 94 (zstep ph (zEm ph d) 4 159 0 [0] L st M) := zEv_step rfl
theorem e94_159 (ph : Bool) (d : Nat) (L st : List zV) (M : zM) : zEv ph d 94 159 L st M = zcont ph d 94 (zstep ph (zEm ph d) 62 162 0 [24, 3, 19, 25, 0] L st M) := zEv_step rfl
theorem e94_162 (ph : Bool) (d : Nat) (L st : List zV) (M : zM) : zEv ph d 94 162 L st M = zcont ph d 94 (zstep ph (zEm ph d) 0 163 0 [3] L st M) := zEv_step rfl
theorem e94_163 (ph : Bool) (d : Nat) (L st : List zV) (M : zM) : zEv ph d 94 163 L st M = zcont ph d 94 (zstep ph (zEm ph d) 0 164 0 [0] L st M) := zEv_step rfl
theorem e94_164 (ph : Bool) (d : Nat) (L st : List zV) (M : zM) : zEv ph d 94 164 L st M = zcont ph d 94 (zstep ph (zEm ph d) 0 165 0 [0] L st M) := zEv_step rfl
theorem e94_165 (ph : Bool) (d : Nat) (L st : List zV) (M : zM) : zEv ph d 94 165 L st M = zcont ph d 94 (zstep ph (zEm ph d) 70 168 106 [4, 1, 25] L st M) := zEv_step rfl
theorem e94_168 (ph : Bool) (d : Nat) (L st : List zV) (M : zM) : zEv ph d 94 168 L st M = zcont ph d 94 (zstep ph (zEm ph d) 80 169 0 [0, 1] L st M) := zEv_step rfl
theorem e94_169 (ph : Bool) (d : Nat) (L st : List zV) (M : zM) : zEv ph d 94 169 L st M = zcont ph d 94 (zstep ph (zEm ph d) 4 170 0 [0] L st M) := zEv_step rfl
theorem e94_170 (ph : Bool) (d : Nat) (L st : List zV) (M : zM) : zEv ph d 94 170 L st M = zcont ph d 94 (zstep ph (zEm ph d) 62 173 0 [24, 3, 19, 25, 0] L st M) := zEv_step rfl
theorem e94_173 (ph : Bool) (d : Nat) (L st : List zV) (M : zM) : zEv ph d 94 173 L st M = zcont ph d 94 (zstep ph (zEm ph d) 0 174 0 [4] L st M) := zEv_step rfl
theorem e94_174 (ph : Bool) (d : Nat) (L st : List zV) (M : zM) : zEv ph d 94 174 L st M = zcont ph d 94 (zstep ph (zEm ph d) 0 175 0 [0] L st M) := zEv_step rfl
theorem e94_175 (ph : Bool) (d : Nat) (L st : List zV) (M : zM) : zEv ph d 94 175 L st M = zcont ph d 94 (zstep ph (zEm ph d) 0 176 0 [0] L st M) := zEv_step rfl
theorem e94_176 (ph : Bool) (d : Nat) (L st : List zV) (M : zM) : zEv ph d 94 176 L st M = zcont ph d 94 (zstep ph (zEm ph d) 70 179 106 [4, 1, 25] L st M) := zEv_step rfl
theorem e94_179 (ph : Bool) (d : Nat) (L st : List zV) (M : zM) : zEv ph d 94 179 L st M = zcont ph d 94 (zstep ph (zEm ph d) 80 180 0 [0, 1] L st M) := zEv_step rfl
theorem e94_180 (ph : Bool) (d : Nat) (L st : List zV) (M : zM) : zEv ph d 94 180 L st M = zcont ph d 94 (zstep ph (zEm ph d) 4 181 0 [0] L st M) := zEv_step rfl
theorem e94_181 (ph : Bool) (d : Nat) (L st : List zV) (M : zM) : zEv ph d 94 181 L st M = zcont ph d 94 (zstep ph (zEm ph d) 0 182 0 [5] L st M) := zEv_step rfl
theorem e94_182 (ph : Bool) (d : Nat) (L st : List zV) (M : zM) : zEv ph d 94 182 L st M = zcont ph d 94 (zstep ph (zEm ph d) 4 183 0 [1] L st M) := zEv_step rfl
theorem e94_183 (ph : Bool) (d : Nat) (L st : List zV) (M : zM) : zEv ph d 94 183 L st M = zcont ph d 94 (zstep ph (zEm ph d) 62 186 0 [28, 0, 1, 11, 5] L st M) := zEv_step rfl
theorem e94_186 (ph : Bool) (d : Nat) (L st : List zV) (M : zM) : zEv ph d 94 186 L st M = zcont ph d 94 (zstep ph (zEm ph d) 4 187 0 [1] L st M) := zEv_step rfl
theorem e94_187 (ph : Bool) (d : Nat) (L st : List zV) (M : zM) : zEv ph d 94 187 L st M = zcont ph d 94 (zstep ph (zEm ph d) 60 190 0 [28, 6] L st M) := zEv_step rfl
theorem e94_190 (ph : Bool) (d : Nat) (L st : List zV) (M : zM) : zEv ph d 94 190 L st M = zcont ph d 94 (zstep ph (zEm ph d) 70 193 96 [4, 1, 24] L st M) := zEv_step rfl
theorem e94_193 (ph : Bool) (d : Nat) (L st : List zV) (M : zM) : zEv ph d 94 193 L st M = zcont ph d 94 (zstep ph (zEm ph d) 80 194 0 [0, 1] L st M) := zEv_step rfl
theorem e94_194 (ph : Bool) (d : Nat) (L st : List zV) (M : zM) : zEv ph d 94 194 L st M = zcont ph d 94 (zstep ph (zEm ph d) 4 195 0 [0] L st M) := zEv_step rfl
theorem e94_195 (ph : Bool) (d : Nat) (L st : List zV) (M : zM) : zEv ph d 94 195 L st M = zcont ph d 94 (zstep ph (zEm ph d) 0 197 0 [6] L st M) := zEv_step rfl
theorem e94_197 (ph : Bool) (d : Nat) (L st : List zV) (M : zM) : zEv ph d 94 197 L st M = zcont ph d 94 (zstep ph (zEm ph d) 4 198 0 [1] L st M) := zEv_step rfl
theorem e94_198 (ph : Bool) (d : Nat) (L st : List zV) (M : zM) : zEv ph d 94 198 L st M = zcont ph d 94 (zstep ph (zEm ph d) 62 201 0 [28, 2, 3, 11, 5] L st M) := zEv_step rfl
theorem e94_201 (ph : Bool) (d : Nat) (L st : List zV) (M : zM) : zEv ph d 94 201 L st M = zcont ph d 94 (zstep ph (zEm ph d) 4 202 0 [1] L st M) := zEv_step rfl
theorem e94_202 (ph : Bool) (d : Nat) (L st : List zV) (M : zM) : zEv ph d 94 202 L st M = zcont ph d 94 (zstep ph (zEm ph d) 60 205 0 [28, 8] L st M) := zEv_step rfl
theorem e94_205 (ph : Bool) (d : Nat) (L st : List zV) (M : zM) : zEv ph d 94 205 L st M = zcont ph d 94 (zstep ph (zEm ph d) 70 208 96 [4, 1, 24] L st M) := zEv_step rfl
theorem e94_208 (ph : Bool) (d : Nat) (L st : List zV) (M : zM) : zEv ph d 94 208 L st M = zcont ph d 94 (zstep ph (zEm ph d) 80 209 0 [0, 1] L st M) := zEv_step rfl
theorem e94_209 (ph : Bool) (d : Nat) (L st : List zV) (M : zM) : zEv ph d 94 209 L st M = zcont ph d 94 (zstep ph (zEm ph d) 4 210 0 [0] L st M) := zEv_step rfl
theorem e94_210 (ph : Bool) (d : Nat) (L st : List zV) (M : zM) : zEv ph d 94 210 L st M = zcont ph d 94 (zstep ph (zEm ph d) 0 212 0 [7] L st M) := zEv_step rfl
theorem e94_212 (ph : Bool) (d : Nat) (L st : List zV) (M : zM) : zEv ph d 94 212 L st M = zcont ph d 94 (zstep ph (zEm ph d) 4 213 0 [1] L st M) := zEv_step rfl
theorem e94_213 (ph : Bool) (d : Nat) (L st : List zV) (M : zM) : zEv ph d 94 213 L st M = zcont ph d 94 (zstep ph (zEm ph d) 62 216 0 [28, 2, 3, 11, 5] L st M) := zEv_step rfl
theorem e94_216 (ph : Bool) (d : Nat) (L st : List zV) (M : zM) : zEv ph d 94 216 L st M = zcont ph d 94 (zstep ph (zEm ph d) 4 217 0 [1] L st M) := zEv_step rfl
theorem e94_217 (ph : Bool) (d : Nat) (L st : List zV) (M : zM) : zEv ph d 94 217 L st M = zcont ph d 94 (zstep ph (zEm ph d) 60 220 0 [28, 8] L st M) := zEv_step rfl
theorem e94_220 (ph : Bool) (d : Nat) (L st : List zV) (M : zM) : zEv ph d 94 220 L st M = zcont ph d 94 (zstep ph (zEm ph d) 70 223 96 [4, 1, 24] L st M) := zEv_step rfl
theorem e94_223 (ph : Bool) (d : Nat) (L st : List zV) (M : zM) : zEv ph d 94 223 L st M = zcont ph d 94 (zstep ph (zEm ph d) 80 224 0 [0, 1] L st M) := zEv_step rfl
theorem e94_224 (ph : Bool) (d : Nat) (L st : List zV) (M : zM) : zEv ph d 94 224 L st M = zcont ph d 94 (zstep ph (zEm ph d) 4 225 0 [0] L st M) := zEv_step rfl
theorem e94_225 (ph : Bool) (d : Nat) (L st : List zV) (M : zM) : zEv ph d 94 225 L st M = zcont ph d 94 (zstep ph (zEm ph d) 0 227 0 [8] L st M) := zEv_step rfl
theorem e94_227 (ph : Bool) (d : Nat) (L st : List zV) (M : zM) : zEv ph d 94 227 L st M = zcont ph d 94 (zstep ph (zEm ph d) 70 230 97 [2, 1, 24] L st M) := zEv_step rfl
theorem e94_230 (ph : Bool) (d : Nat) (L st : List zV) (M : zM) : zEv ph d 94 230 L st M = zcont ph d 94 (zstep ph (zEm ph d) 80 231 0 [0, 1] L st M) := zEv_step rfl
theorem e94_231 (ph : Bool) (d : Nat) (L st : List zV) (M : zM) : zEv ph d 94 231 L st M = zcont ph d 94 (zstep ph (zEm ph d) 4 232 0 [0] L st M) := zEv_step rfl
theorem e94_232 (ph : Bool) (d : Nat) (L st : List zV) (M : zM) : zEv ph d 94 232 L st M = zcont ph d 94 (zstep ph (zEm ph d) 0 234 0 [9] L st M) := zEv_step rfl
theorem e94_234 (ph : Bool) (d : Nat) (L st : List zV) (M : zM) : zEv ph d 94 234 L st M = zcont ph d 94 (zstep ph (zEm ph d) 70 237 97 [2, 1, 24] L st M) := zEv_step rfl
theorem e94_237 (ph : Bool) (d : Nat) (L st : List zV) (M : zM) : zEv ph d 94 237 L st M = zcont ph d 94 (zstep ph (zEm ph d) 80 238 0 [0, 1] L st M) := zEv_step rfl
theorem e94_238 (ph : Bool) (d : Nat) (L st : List zV) (M : zM) : zEv ph d 94 238 L st M = zcont ph d 94 (zstep ph (zEm ph d) 4 239 0 [0] L st M) := zEv_step rfl
theorem e94_239 (ph : Bool) (d : Nat) (L st : List zV) (M : zM) : zEv ph d 94 239 L st M = zcont ph d 94 (zstep ph (zEm ph d) 0 241 0 [10] L st M) := zEv_step rfl
theorem e94_241 (ph : Bool) (d : Nat) (L st : List zV) (M : zM) : zEv ph d 94 241 L st M = zcont ph d 94 (zstep ph (zEm ph d) 70 244 97 [2, 1, 24] L st M) := zEv_step rfl
theorem e94_244 (ph : Bool) (d : Nat) (L st : List zV) (M : zM) : zEv ph d 94 244 L st M = zcont ph d 94 (zstep ph (zEm ph d) 80 245 0 [0, 1] L st M) := zEv_step rfl
theorem e94_245 (ph : Bool) (d : Nat) (L st : List zV) (M : zM) : zEv ph d 94 245 L st M = zcont ph d 94 (zstep ph (zEm ph d) 4 246 0 [0] L st M) := zEv_step rfl
theorem e94_246 (ph : Bool) (d : Nat) (L st : List zV) (M : zM) : zEv ph d 94 246 L st M = zcont ph d 94 (zstep ph (zEm ph d) 4 247 0 [1] L st M) := zEv_step rfl
theorem e94_247 (ph : Bool) (d : Nat) (L st : List zV) (M : zM) : zEv ph d 94 247 L st M = zcont ph d 94 (zstep ph (zEm ph d) 2 248 0 [2] L st M) := zEv_step rfl
theorem e94_248 (ph : Bool) (d : Nat) (L st : List zV) (M : zM) : zEv ph d 94 248 L st M = zcont ph d 94 (zstep ph (zEm ph d) 0 249 0 [1] L st M) := zEv_step rfl
theorem e94_249 (ph : Bool) (d : Nat) (L st : List zV) (M : zM) : zEv ph d 94 249 L st M = zcont ph d 94 (zstep ph (zEm ph d) 10 250 0 [] L st M) := zEv_step rfl
theorem e94_250 (ph : Bool) (d : Nat) (L st : List zV) (M : zM) : zEv ph d 94 250 L st M = zcont ph d 94 (zstep ph (zEm ph d) 70 253 92 [3, 1, 24] L st M) := zEv_step rfl
theorem e94_253 (ph : Bool) (d : Nat) (L st : List zV) (M : zM) : zEv ph d 94 253 L st M = zcont ph d 94 (zstep ph (zEm ph d) 40 256 272 [] L st M) := zEv_step rfl
theorem e94_256 (ph : Bool) (d : Nat) (L st : List zV) (M : zM) : zEv ph d 94 256 L st M = zcont ph d 94 (zstep ph (zEm ph d) 4 257 0 [0] L st M) := zEv_step rfl
theorem e94_257 (ph : Bool) (d : Nat) (L st : List zV) (M : zM) : zEv ph d 94 257 L st M = zcont ph d 94 (zstep ph (zEm ph d) 62 260 0 [24, 0, 1, 27, 0] L st M) := zEv_step rfl
theorem e94_260 (ph : Bool) (d : Nat) (L st : List zV) (M : zM) : zEv ph d 94 260 L st M = zcont ph d 94 (zstep ph (zEm ph d) 0 262 0 [41] L st M) := zEv_step rfl
theorem e94_262 (ph : Bool) (d : Nat) (L st : List zV) (M : zM) : zEv ph d 94 262 L st M = zcont ph d 94 (zstep ph (zEm ph d) 70 265 145 [2, 1, 27] L st M) := zEv_step rfl
theorem e94_265 (ph : Bool) (d : Nat) (L st : List zV) (M : zM) : zEv ph d 94 265 L st M = zcont ph d 94 (zstep ph (zEm ph d) 40 268 272 [] L st M) := zEv_step rfl
theorem e94_268 (ph : Bool) (d : Nat) (L st : List zV) (M : zM) : zEv ph d 94 268 L st M = zcont ph d 94 (zstep ph (zEm ph d) 0 269 0 [1] L st M) := zEv_step rfl
theorem e94_269 (ph : Bool) (d : Nat) (L st : List zV) (M : zM) : zEv ph d 94 269 L st M = zcont ph d 94 (zstep ph (zEm ph d) 52 272 273 [] L st M) := zEv_step rfl
theorem e94_272 (ph : Bool) (d : Nat) (L st : List zV) (M : zM) : zEv ph d 94 272 L st M = zcont ph d 94 (zstep ph (zEm ph d) 0 273 0 [0] L st M) := zEv_step rfl
theorem e94_273 (ph : Bool) (d : Nat) (L st : List zV) (M : zM) : zEv ph d 94 273 L st M = zcont ph d 94 (zstep ph (zEm ph d) 80 274 0 [0, 1] L st M) := zEv_step rfl
theorem m95 (ph : Bool) (d : Nat) (a x0 : Int) (M : zM) : zEm ph (d + 1) 95 [(24, a, x0)] M = zEv ph d 95 0 [(24, a, x0)] [] M := rfl
theorem e95_0 (ph : Bool) (d : Nat) (L st : List zV) (M : zM) : zEv ph d 95 0 L st M = zcont ph d 95 (zstep ph (zEm ph d) 78 3 0 [0, 34] L st M) := zEv_step rfl
theorem e95_3 (ph : Bool) (d : Nat) (L st : List zV) (M : zM) : zEv ph d 95 3 L st M = zcont ph d 95 (zstep ph (zEm ph d) 4 4 0 [0] L st M) := zEv_step rfl
theorem e95_4 (ph : Bool) (d : Nat) (L st : List zV) (M : zM) : zEv ph d 95 4 L st M = zcont ph d 95 (zstep ph (zEm ph d) 62 7 0 [24, 0, 1, 27, 0] L st M) := zEv_step rfl
theorem e95_7 (ph : Bool) (d : Nat) (L st : List zV) (M : zM) : zEv ph d 95 7 L st M = zcont ph d 95 (zstep ph (zEm ph d) 63 10 0 [27, 7] L st M) := zEv_step rfl
theorem e95_10 (ph : Bool) (d : Nat) (L st : List zV) (M : zM) : zEv ph d 95 10 L st M = zcont ph d 95 (zstep ph (zEm ph d) 76 13 0 [] L st M) := zEv_step rfl
theorem e95_13 (ph : Bool) (d : Nat) (L st : List zV) (M : zM) : zEv ph d 95 13 L st M = zcont ph d 95 (zstep ph (zEm ph d) 85 14 0 [] L st M) := zEv_step rfl
theorem e95_14 (ph : Bool) (d : Nat) (a y : Int) (L st : List zV) (M : zM) : zEv ph d 95 14 L ((0, a, y) :: st) M = dite (a = 10) (fun _ => zEv ph d 95 64 L st M) (fun _ => dite (a = 11) (fun _ => zEv ph d 95 64 L st M) (fun _ => dite (a = 12) (fun _ => zEv ph d 95 64 L st M) (fun _ => dite (a = 13) (fun _ => zEv ph d 95 64 L st M) (fun _ => dite (a = 14) (fun _ => zEv ph d 95 64 L st M) (fun _ => dite (a = 15) (fun _ => zEv ph d 95 64 L st M) (fun _ => dite (a = 16) (fun _ => zEv ph d 95 64 L st M) (fun _ => dite (a = 17) (fun _ => zEv ph d 95 64 L st M) (fun _ => dite (a = 18) (fun _ => zEv ph d 95 64 L st M) (fun _ => zEv ph d 95 66 L st M))))))))) := (zEv_step (op := 56) (nx := 64) (tg := 66) (r := [10, 64, 64, 64, 64, 64, 64, 64, 64, 64]) rfl).trans (zts9 (fun q => zEv ph d 95 q L st M))
theorem e95_64 (ph : Bool) (d : Nat) (L st : List zV) (M : zM) : zEv ph d 95 64 L st M = zcont ph d 95 (zstep ph (zEm ph d) 0 65 0 [1] L st M) := zEv_step rfl
theorem e95_65 (ph : Bool) (d : Nat) (L st : List zV) (M : zM) : zEv ph d 95 65 L st M = zcont ph d 95 (zstep ph (zEm ph d) 80 66 0 [0, 1] L st M) := zEv_step rfl
theorem e95_66 (ph : Bool) (d : Nat) (L st : List zV) (M : zM) : zEv ph d 95 66 L st M = zcont ph d 95 (zstep ph (zEm ph d) 4 67 0 [0] L st M) := zEv_step rfl
theorem e95_67 (ph : Bool) (d : Nat) (L st : List zV) (M : zM) : zEv ph d 95 67 L st M = zcont ph d 95 (zstep ph (zEm ph d) 62 70 0 [24, 0, 1, 27, 0] L st M) := zEv_step rfl
theorem e95_70 (ph : Bool) (d : Nat) (L st : List zV) (M : zM) : zEv ph d 95 70 L st M = zcont ph d 95 (zstep ph (zEm ph d) 60 73 0 [27, 9] L st M) := zEv_step rfl
theorem e95_73 (ph : Bool) (d : Nat) (L st : List zV) (M : zM) : zEv ph d 95 73 L st M = zcont ph d 95 (zstep ph (zEm ph d) 0 75 0 [40] L st M) := zEv_step rfl
theorem e95_75 (ph : Bool) (d : Nat) (L st : List zV) (M : zM) : zEv ph d 95 75 L st M = zcont ph d 95 (zstep ph (zEm ph d) 47 78 82 [] L st M) := zEv_step rfl
theorem e95_78 (ph : Bool) (d : Nat) (L st : List zV) (M : zM) : zEv ph d 95 78 L st M = zcont ph d 95 (zstep ph (zEm ph d) 0 79 0 [1] L st M) := zEv_step rfl
theorem e95_79 (ph : Bool) (d : Nat) (L st : List zV) (M : zM) : zEv ph d 95 79 L st M = zcont ph d 95 (zstep ph (zEm ph d) 52 82 83 [] L st M) := zEv_step rfl
theorem e95_82 (ph : Bool) (d : Nat) (L st : List zV) (M : zM) : zEv ph d 95 82 L st M = zcont ph d 95 (zstep ph (zEm ph d) 0 83 0 [0] L st M) := zEv_step rfl
theorem e95_83 (ph : Bool) (d : Nat) (L st : List zV) (M : zM) : zEv ph d 95 83 L st M = zcont ph d 95 (zstep ph (zEm ph d) 80 84 0 [0, 1] L st M) := zEv_step rfl
theorem m96 (ph : Bool) (d : Nat) (a x0 p0 y0 p1 y1 p2 y2 : Int) (M : zM) : zEm ph (d + 1) 96 [(24, a, x0), (0, p0, y0), (11, p1, y1), (0, p2, y2)] M = zEv ph d 96 0 [(24, a, x0), (0, p0, y0), (11, p1, y1), (0, p2, y2), (3, 0, 0)] [] M := rfl
theorem e96_0 (ph : Bool) (d : Nat) (L st : List zV) (M : zM) : zEv ph d 96 0 L st M = zcont ph d 96 (zstep ph (zEm ph d) 4 1 0 [0] L st M) := zEv_step rfl
theorem e96_1 (ph : Bool) (d : Nat) (L st : List zV) (M : zM) : zEv ph d 96 1 L st M = zcont ph d 96 (zstep ph (zEm ph d) 62 4 0 [24, 0, 1, 27, 0] L st M) := zEv_step rfl
theorem e96_4 (ph : Bool) (d : Nat) (L st : List zV) (M : zM) : zEv ph d 96 4 L st M = zcont ph d 96 (zstep ph (zEm ph d) 4 5 0 [2] L st M) := zEv_step rfl
theorem e96_5 (ph : Bool) (d : Nat) (L st : List zV) (M : zM) : zEv ph d 96 5 L st M = zcont ph d 96 (zstep ph (zEm ph d) 2 6 0 [3] L st M) := zEv_step rfl
theorem e96_6 (ph : Bool) (d : Nat) (L st : List zV) (M : zM) : zEv ph d 96 6 L st M = zcont ph d 96 (zstep ph (zEm ph d) 70 9 149 [3, 1, 27] L st M) := zEv_step rfl
theorem e96_9 (ph : Bool) (d : Nat) (L st : List zV) (M : zM) : zEv ph d 96 9 L st M = zcont ph d 96 (zstep ph (zEm ph d) 5 11 0 [4] L st M) := zEv_step rfl
theorem e96_11 (ph : Bool) (d : Nat) (L st : List zV) (M : zM) : zEv ph d 96 11 L st M = zcont ph d 96 (zstep ph (zEm ph d) 2 13 0 [4] L st M) := zEv_step rfl
theorem e96_13 (ph : Bool) (d : Nat) (L st : List zV) (M : zM) : zEv ph d 96 13 L st M = zcont ph d 96 (zstep ph (zEm ph d) 0 14 0 [-1] L st M) := zEv_step rfl
theorem e96_14 (ph : Bool) (d : Nat) (L st : List zV) (M : zM) : zEv ph d 96 14 L st M = zcont ph d 96 (zstep ph (zEm ph d) 47 17 19 [] L st M) := zEv_step rfl
theorem e96_17 (ph : Bool) (d : Nat) (L st : List zV) (M : zM) : zEv ph d 96 17 L st M = zcont ph d 96 (zstep ph (zEm ph d) 0 18 0 [0] L st M) := zEv_step rfl
theorem e96_18 (ph : Bool) (d : Nat) (L st : List zV) (M : zM) : zEv ph d 96 18 L st M = zcont ph d 96 (zstep ph (zEm ph d) 80 19 0 [0, 1] L st M) := zEv_step rfl
theorem e96_19 (ph : Bool) (d : Nat) (L st : List zV) (M : zM) : zEv ph d 96 19 L st M = zcont ph d 96 (zstep ph (zEm ph d) 4 20 0 [0] L st M) := zEv_step rfl
theorem e96_20 (ph : Bool) (d : Nat) (L st : List zV) (M : zM) : zEv ph d 96 20 L st M = zcont ph d 96 (zstep ph (zEm ph d) 62 23 0 [24, 0, 1, 27, 0] L st M) := zEv_step rfl
theorem e96_23 (ph : Bool) (d : Nat) (L st : List zV) (M : zM) : zEv ph d 96 23 L st M = zcont ph d 96 (zstep ph (zEm ph d) 70 26 141 [1, 0, 27] L st M) := zEv_step rfl
theorem e96_26 (ph : Bool) (d : Nat) (L st : List zV) (M : zM) : zEv ph d 96 26 L st M = zcont ph d 96 (zstep ph (zEm ph d) 4 27 0 [0] L st M) := zEv_step rfl
theorem e96_27 (ph : Bool) (d : Nat) (L st : List zV) (M : zM) : zEv ph d 96 27 L st M = zcont ph d 96 (zstep ph (zEm ph d) 62 30 0 [24, 3, 19, 25, 0] L st M) := zEv_step rfl
theorem e96_30 (ph : Bool) (d : Nat) (L st : List zV) (M : zM) : zEv ph d 96 30 L st M = zcont ph d 96 (zstep ph (zEm ph d) 2 31 0 [1] L st M) := zEv_step rfl
theorem e96_31 (ph : Bool) (d : Nat) (L st : List zV) (M : zM) : zEv ph d 96 31 L st M = zcont ph d 96 (zstep ph (zEm ph d) 2 33 0 [4] L st M) := zEv_step rfl
theorem e96_33 (ph : Bool) (d : Nat) (L st : List zV) (M : zM) : zEv ph d 96 33 L st M = zcont ph d 96 (zstep ph (zEm ph d) 0 34 0 [0] L st M) := zEv_step rfl
theorem e96_34 (ph : Bool) (d : Nat) (L st : List zV) (M : zM) : zEv ph d 96 34 L st M = zcont ph d 96 (zstep ph (zEm ph d) 70 37 106 [4, 1, 25] L st M) := zEv_step rfl
theorem e96_37 (ph : Bool) (d : Nat) (L st : List zV) (M : zM) : zEv ph d 96 37 L st M = zcont ph d 96 (zstep ph (zEm ph d) 80 38 0 [0, 1] L st M) := zEv_step rfl
theorem m97 (ph : Bool) (d : Nat) (a x0 p0 y0 : Int) (M : zM) : zEm ph (d + 1) 97 [(24, a, x0), (0, p0, y0)] M = zEv ph d 97 0 [(24, a, x0), (0, p0, y0), (3, 0, 0), (3, 0, 0)] [] M := rfl
theorem e97_0 (ph : Bool) (d : Nat) (L st : List zV) (M : zM) : zEv ph d 97 0 L st M = zcont ph d 97 (zstep ph (zEm ph d) 4 1 0 [0] L st M) := zEv_step rfl
theorem e97_1 (ph : Bool) (d : Nat) (L st : List zV) (M : zM) : zEv ph d 97 1 L st M = zcont ph d 97 (zstep ph (zEm ph d) 62 4 0 [24, 0, 1, 27, 0] L st M) := zEv_step rfl
theorem e97_4 (ph : Bool) (d : Nat) (L st : List zV) (M : zM) : zEv ph d 97 4 L st M = zcont ph d 97 (zstep ph (zEm ph d) 60 7 0 [27, 9] L st M) := zEv_step rfl
theorem e97_7 (ph : Bool) (d : Nat) (L st : List zV) (M : zM) : zEv ph d 97 7 L st M = zcont ph d 97 (zstep ph (zEm ph d) 5 8 0 [2] L st M) := zEv_step rfl
theorem e97_8 (ph : Bool) (d : Nat) (L st : List zV) (M : zM) : zEv ph d 97 8 L st M = zcont ph d 97 (zstep ph (zEm ph d) 2 9 0 [2] L st M) := zEv_step rfl
theorem e97_9 (ph : Bool) (d : Nat) (L st : List zV) (M : zM) : zEv ph d 97 9 L st M = zcont ph d 97 (zstep ph (zEm ph d) 0 11 0 [60] L st M) := zEv_step rfl
theorem e97_11 (ph : Bool) (d : Nat) (L st : List zV) (M : zM) : zEv ph d 97 11 L st M = zcont ph d 97 (zstep ph (zEm ph d) 46 14 35 [] L st M) := zEv_step rfl
theorem e97_14 (ph : Bool) (d : Nat) (L st : List zV) (M : zM) : zEv ph d 97 14 L st M = zcont ph d 97 (zstep ph (zEm ph d) 2 15 0 [2] L st M) := zEv_step rfl
theorem e97_15 (ph : Bool) (d : Nat) (L st : List zV) (M : zM) : zEv ph d 97 15 L st M = zcont ph d 97 (zstep ph (zEm ph d) 0 17 0 [61] L st M) := zEv_step rfl
theorem e97_17 (ph : Bool) (d : Nat) (L st : List zV) (M : zM) : zEv ph d 97 17 L st M = zcont ph d 97 (zstep ph (zEm ph d) 46 20 35 [] L st M) := zEv_step rfl
theorem e97_20 (ph : Bool) (d : Nat) (L st : List zV) (M : zM) : zEv ph d 97 20 L st M = zcont ph d 97 (zstep ph (zEm ph d) 2 21 0 [2] L st M) := zEv_step rfl
theorem e97_21 (ph : Bool) (d : Nat) (L st : List zV) (M : zM) : zEv ph d 97 21 L st M = zcont ph d 97 (zstep ph (zEm ph d) 0 23 0 [62] L st M) := zEv_step rfl
theorem e97_23 (ph : Bool) (d : Nat) (L st : List zV) (M : zM) : zEv ph d 97 23 L st M = zcont ph d 97 (zstep ph (zEm ph d) 46 26 35 [] L st M) := zEv_step rfl
theorem e97_26 (ph : Bool) (d : Nat) (L st : List zV) (M : zM) : zEv ph d 97 26 L st M = zcont ph d 97 (zstep ph (zEm ph d) 4 27 0 [0] L st M) := zEv_step rfl
theorem e97_27 (ph : Bool) (d : Nat) (L st : List zV) (M : zM) : zEv ph d 97 27 L st M = zcont ph d 97 (zstep ph (zEm ph d) 62 30 0 [24, 0, 1, 27, 0] L st M) := zEv_step rfl
theorem e97_30 (ph : Bool) (d : Nat) (L st : List zV) (M : zM) : zEv ph d 97 30 L st M = zcont ph d 97 (zstep ph (zEm ph d) 0 31 0 [1] L st M) := zEv_step rfl
theorem e97_31 (ph : Bool) (d : Nat) (L st : List zV) (M : zM) : zEv ph d 97 31 L st M = zcont ph d 97 (zstep ph (zEm ph d) 70 34 140 [2, 1, 27] L st M) := zEv_step rfl
theorem e97_34 (ph : Bool) (d : Nat) (L st : List zV) (M : zM) : zEv ph d 97 34 L st M = zcont ph d 97 (zstep ph (zEm ph d) 80 35 0 [0, 1] L st M) := zEv_step rfl
theorem e97_35 (ph : Bool) (d : Nat) (L st : List zV) (M : zM) : zEv ph d 97 35 L st M = zcont ph d 97 (zstep ph (zEm ph d) 4 36 0 [0] L st M) := zEv_step rfl
theorem e97_36 (ph : Bool) (d : Nat) (L st : List zV) (M : zM) : zEv ph d 97 36 L st M = zcont ph d 97 (zstep ph (zEm ph d) 62 39 0 [24, 0, 1, 27, 0] L st M) := zEv_step rfl
theorem e97_39 (ph : Bool) (d : Nat) (L st : List zV) (M : zM) : zEv ph d 97 39 L st M = zcont ph d 97 (zstep ph (zEm ph d) 70 42 141 [1, 0, 27] L st M) := zEv_step rfl
theorem e97_42 (ph : Bool) (d : Nat) (L st : List zV) (M : zM) : zEv ph d 97 42 L st M = zcont ph d 97 (zstep ph (zEm ph d) 4 43 0 [0] L st M) := zEv_step rfl
theorem e97_43 (ph : Bool) (d : Nat) (L st : List zV) (M : zM) : zEv ph d 97 43 L st M = zcont ph d 97 (zstep ph (zEm ph d) 62 46 0 [24, 0, 1, 27, 0] L st M) := zEv_step rfl
theorem e97_46 (ph : Bool) (d : Nat) (L st : List zV) (M : zM) : zEv ph d 97 46 L st M = zcont ph d 97 (zstep ph (zEm ph d) 0 47 0 [0] L st M) := zEv_step rfl
theorem e97_47 (ph : Bool) (d : Nat) (L st : List zV) (M : zM) : zEv ph d 97 47 L st M = zcont ph d 97 (zstep ph (zEm ph d) 0 50 0 [999] L st M) := zEv_step rfl
theorem e97_50 (ph : Bool) (d : Nat) (L st : List zV) (M : zM) : zEv ph d 97 50 L st M = zcont ph d 97 (zstep ph (zEm ph d) 70 53 146 [3, 1, 27] L st M) := zEv_step rfl
theorem e97_53 (ph : Bool) (d : Nat) (L st : List zV) (M : zM) : zEv ph d 97 53 L st M = zcont ph d 97 (zstep ph (zEm ph d) 5 54 0 [3] L st M) := zEv_step rfl
theorem e97_54 (ph : Bool) (d : Nat) (L st : List zV) (M : zM) : zEv ph d 97 54 L st M = zcont ph d 97 (zstep ph (zEm ph d) 2 55 0 [3] L st M) := zEv_step rfl
theorem e97_55 (ph : Bool) (d : Nat) (L st : List zV) (M : zM) : zEv ph d 97 55 L st M = zcont ph d 97 (zstep ph (zEm ph d) 0 56 0 [-1] L st M) := zEv_step rfl
theorem e97_56 (ph : Bool) (d : Nat) (L st : List zV) (M : zM) : zEv ph d 97 56 L st M = zcont ph d 97 (zstep ph (zEm ph d) 46 59 76 [] L st M) := zEv_step rfl
theorem e97_59 (ph : Bool) (d : Nat) (L st : List zV) (M : zM) : zEv ph d 97 59 L st M = zcont ph d 97 (zstep ph (zEm ph d) 4 60 0 [0] L st M) := zEv_step rfl
theorem e97_60 (ph : Bool) (d : Nat) (L st : List zV) (M : zM) : zEv ph d 97 60 L st M = zcont ph d 97 (zstep ph (zEm ph d) 62 63 0 [24, 3, 19, 25, 0] L st M) := zEv_step rfl
theorem e97_63 (ph : Bool) (d : Nat) (L st : List zV) (M : zM) : zEv ph d 97 63 L st M = zcont ph d 97 (zstep ph (zEm ph d) 2 64 0 [1] L st M) := zEv_step rfl
theorem e97_64 (ph : Bool) (d : Nat) (L st : List zV) (M : zM) : zEv ph d 97 64 L st M = zcont ph d 97 (zstep ph (zEm ph d) 2 65 0 [3] L st M) := zEv_step rfl
theorem e97_65 (ph : Bool) (d : Nat) (L st : List zV) (M : zM) : zEv ph d 97 65 L st M = zcont ph d 97 (zstep ph (zEm ph d) 2 66 0 [2] L st M) := zEv_step rfl
theorem e97_66 (ph : Bool) (d : Nat) (L st : List zV) (M : zM) : zEv ph d 97 66 L st M = zcont ph d 97 (zstep ph (zEm ph d) 70 69 106 [4, 1, 25] L st M) := zEv_step rfl
theorem e97_69 (ph : Bool) (d : Nat) (L st : List zV) (M : zM) : zEv ph d 97 69 L st M = zcont ph d 97 (zstep ph (zEm ph d) 40 72 76 [] L st M) := zEv_step rfl
theorem e97_72 (ph : Bool) (d : Nat) (L st : List zV) (M : zM) : zEv ph d 97 72 L st M = zcont ph d 97 (zstep ph (zEm ph d) 0 73 0 [1] L st M) := zEv_step rfl
theorem e97_73 (ph : Bool) (d : Nat) (L st : List zV) (M : zM) : zEv ph d 97 73 L st M = zcont ph d 97 (zstep ph (zEm ph d) 52 76 77 [] L st M) := zEv_step rfl
theorem e97_76 (ph : Bool) (d : Nat) (L st : List zV) (M : zM) : zEv ph d 97 76 L st M = zcont ph d 97 (zstep ph (zEm ph d) 0 77 0 [0] L st M) := zEv_step rfl
theorem e97_77 (ph : Bool) (d : Nat) (L st : List zV) (M : zM) : zEv ph d 97 77 L st M = zcont ph d 97 (zstep ph (zEm ph d) 80 78 0 [0, 1] L st M) := zEv_step rfl
theorem m106 (ph : Bool) (d : Nat) (a x0 p0 y0 p1 y1 p2 y2 : Int) (M : zM) : zEm ph (d + 1) 106 [(25, a, x0), (0, p0, y0), (0, p1, y1), (0, p2, y2)] M = zEv ph d 106 0 [(25, a, x0), (0, p0, y0), (0, p1, y1), (0, p2, y2)] [] M := rfl
theorem e106_0 (ph : Bool) (d : Nat) (L st : List zV) (M : zM) : zEv ph d 106 0 L st M = zcont ph d 106 (zstep ph (zEm ph d) 4 1 0 [0] L st M) := zEv_step rfl
theorem e106_1 (ph : Bool) (d : Nat) (L st : List zV) (M : zM) : zEv ph d 106 1 L st M = zcont ph d 106 (zstep ph (zEm ph d) 60 4 0 [25, 4] L st M) := zEv_step rfl
theorem e106_4 (ph : Bool) (d : Nat) (L st : List zV) (M : zM) : zEv ph d 106 4 L st M = zcont ph d 106 (zstep ph (zEm ph d) 0 6 0 [40] L st M) := zEv_step rfl
theorem e106_6 (ph : Bool) (d : Nat) (L st : List zV) (M : zM) : zEv ph d 106 6 L st M = zcont ph d 106 (zstep ph (zEm ph d) 48 9 11 [] L st M) := zEv_step rfl
theorem e106_9 (ph : Bool) (d : Nat) (L st : List zV) (M : zM) : zEv ph d 106 9 L st M = zcont ph d 106 (zstep ph (zEm ph d) 0 10 0 [0] L st M) := zEv_step rfl
theorem e106_10 (ph : Bool) (d : Nat) (L st : List zV) (M : zM) : zEv ph d 106 10 L st M = zcont ph d 106 (zstep ph (zEm ph d) 80 11 0 [0, 1] L st M) := zEv_step rfl
theorem e106_11 (ph : Bool) (d : Nat) (L st : List zV) (M : zM) : zEv ph d 106 11 L st M = zcont ph d 106 (zstep ph (zEm ph d) 4 12 0 [0] L st M) := zEv_step rfl
theorem e106_12 (ph : Bool) (d : Nat) (L st : List zV) (M : zM) : zEv ph d 106 12 L st M = zcont ph d 106 (zstep ph (zEm ph d) 62 15 0 [25, 0, 1, 10, 40] L st M) := zEv_step rfl
theorem e106_15 (ph : Bool) (d : Nat) (L st : List zV) (M : zM) : zEv ph d 106 15 L st M = zcont ph d 106 (zstep ph (zEm ph d) 4 16 0 [0] L st M) := zEv_step rfl
theorem e106_16 (ph : Bool) (d : Nat) (L st : List zV) (M : zM) : zEv ph d 106 16 L st M = zcont ph d 106 (zstep ph (zEm ph d) 60 19 0 [25, 4] L st M) := zEv_step rfl
theorem e106_19 (ph : Bool) (d : Nat) (L st : List zV) (M : zM) : zEv ph d 106 19 L st M = zcont ph d 106 (zstep ph (zEm ph d) 2 20 0 [1] L st M) := zEv_step rfl
theorem e106_20 (ph : Bool) (d : Nat) (L st : List zV) (M : zM) : zEv ph d 106 20 L st M = zcont ph d 106 (zstep ph (zEm ph d) 89 21 0 [] L st M) := zEv_step rfl
theorem e106_21 (ph : Bool) (d : Nat) (L st : List zV) (M : zM) : zEv ph d 106 21 L st M = zcont ph d 106 (zstep ph (zEm ph d) 4 22 0 [0] L st M) := zEv_step rfl
theorem e106_22 (ph : Bool) (d : Nat) (L st : List zV) (M : zM) : zEv ph d 106 22 L st M = zcont ph d 106 (zstep ph (zEm ph d) 62 25 0 [25, 1, 2, 10, 40] L st M) := zEv_step rfl
theorem e106_25 (ph : Bool) (d : Nat) (L st : List zV) (M : zM) : zEv ph d 106 25 L st M = zcont ph d 106 (zstep ph (zEm ph d) 4 26 0 [0] L st M) := zEv_step rfl
theorem e106_26 (ph : Bool) (d : Nat) (L st : List zV) (M : zM) : zEv ph d 106 26 L st M = zcont ph d 106 (zstep ph (zEm ph d) 60 29 0 [25, 4] L st M) := zEv_step rfl
theorem e106_29 (ph : Bool) (d : Nat) (L st : List zV) (M : zM) : zEv ph d 106 29 L st M = zcont ph d 106 (zstep ph (zEm ph d) 2 30 0 [2] L st M) := zEv_step rfl
theorem e106_30 (ph : Bool) (d : Nat) (L st : List zV) (M : zM) : zEv ph d 106 30 L st M = zcont ph d 106 (zstep ph (zEm ph d) 89 31 0 [] L st M) := zEv_step rfl
theorem e106_31 (ph : Bool) (d : Nat) (L st : List zV) (M : zM) : zEv ph d 106 31 L st M = zcont ph d 106 (zstep ph (zEm ph d) 4 32 0 [0] L st M) := zEv_step rfl
theorem e106_32 (ph : Bool) (d : Nat) (L st : List zV) (M : zM) : zEv ph d 106 32 L st M = zcont ph d 106 (zstep ph (zEm ph d) 62 35 0 [25, 2, 3, 10, 40] L st M) := zEv_step rfl
theorem e106_35 (ph : Bool) (d : Nat) (L st : List zV) (M : zM) : zEv ph d 106 35 L st M = zcont ph d 106 (zstep ph (zEm ph d) 4 36 0 [0] L st M) := zEv_step rfl
theorem e106_36 (ph : Bool) (d : Nat) (L st : List zV) (M : zM) : zEv ph d 106 36 L st M = zcont ph d 106 (zstep ph (zEm ph d) 60 39 0 [25, 4] L st M) := zEv_step rfl
theorem e106_39 (ph : Bool) (d : Nat) (L st : List zV) (M : zM) : zEv ph d 106 39 L st M = zcont ph d 106 (zstep ph (zEm ph d) 2 40 0 [3] L st M) := zEv_step rfl
theorem e106_40 (ph : Bool) (d : Nat) (L st : List zV) (M : zM) : zEv ph d 106 40 L st M = zcont ph d 106 (zstep ph (zEm ph d) 89 41 0 [] L st M) := zEv_step rfl
theorem e106_41 (ph : Bool) (d : Nat) (L st : List zV) (M : zM) : zEv ph d 106 41 L st M = zcont ph d 106 (zstep ph (zEm ph d) 4 42 0 [0] L st M) := zEv_step rfl
theorem e106_42 (ph : Bool) (d : Nat) (L st : List zV) (M : zM) : zEv ph d 106 42 L st M = zcont ph d 106 (zstep ph (zEm ph d) 36 43 0 [] L st M) := zEv_step rfl
theorem e106_43 (ph : Bool) (d : Nat) (L st : List zV) (M : zM) : zEv ph d 106 43 L st M = zcont ph d 106 (zstep ph (zEm ph d) 60 46 0 [25, 4] L st M) := zEv_step rfl
theorem e106_46 (ph : Bool) (d : Nat) (L st : List zV) (M : zM) : zEv ph d 106 46 L st M = zcont ph d 106 (zstep ph (zEm ph d) 0 47 0 [1] L st M) := zEv_step rfl
theorem e106_47 (ph : Bool) (d : Nat) (L st : List zV) (M : zM) : zEv ph d 106 47 L st M = zcont ph d 106 (zstep ph (zEm ph d) 10 48 0 [] L st M) := zEv_step rfl
theorem e106_48 (ph : Bool) (d : Nat) (L st : List zV) (M : zM) : zEv ph d 106 48 L st M = zcont ph d 106 (zstep ph (zEm ph d) 65 51 0 [25, 4] L st M) := zEv_step rfl
theorem e106_51 (ph : Bool) (d : Nat) (L st : List zV) (M : zM) : zEv ph d 106 51 L st M = zcont ph d 106 (zstep ph (zEm ph d) 0 52 0 [1] L st M) := zEv_step rfl
theorem e106_52 (ph : Bool) (d : Nat) (L st : List zV) (M : zM) : zEv ph d 106 52 L st M = zcont ph d 106 (zstep ph (zEm ph d) 80 53 0 [0, 1] L st M) := zEv_step rfl
theorem m287 (ph : Bool) (d : Nat) (a x0 : Int) (M : zM) : zEm ph (d + 1) 287 [(30, a, x0)] M = zEv ph d 287 0 [(30, a, x0), (3, 0, 0)] [] M := rfl
theorem e287_0 (ph : Bool) (d : Nat) (L st : List zV) (M : zM) : zEv ph d 287 0 L st M = zcont ph d 287 (zstep ph (zEm ph d) 4 1 0 [0] L st M) := zEv_step rfl
theorem e287_1 (ph : Bool) (d : Nat) (L st : List zV) (M : zM) : zEv ph d 287 1 L st M = zcont ph d 287 (zstep ph (zEm ph d) 70 4 288 [1, 1, 30] L st M) := zEv_step rfl
theorem e287_4 (ph : Bool) (d : Nat) (L st : List zV) (M : zM) : zEv ph d 287 4 L st M = zcont ph d 287 (zstep ph (zEm ph d) 41 7 9 [] L st M) := zEv_step rfl
theorem e287_7 (ph : Bool) (d : Nat) (L st : List zV) (M : zM) : zEv ph d 287 7 L st M = zcont ph d 287 (zstep ph (zEm ph d) 0 8 0 [0] L st M) := zEv_step rfl
theorem e287_8 (ph : Bool) (d : Nat) (L st : List zV) (M : zM) : zEv ph d 287 8 L st M = zcont ph d 287 (zstep ph (zEm ph d) 80 9 0 [0, 1] L st M) := zEv_step rfl
theorem e287_9 (ph : Bool) (d : Nat) (L st : List zV) (M : zM) : zEv ph d 287 9 L st M = zcont ph d 287 (zstep ph (zEm ph d) 4 10 0 [0] L st M) := zEv_step rfl
theorem e287_10 (ph : Bool) (d : Nat) (L st : List zV) (M : zM) : zEv ph d 287 10 L st M = zcont ph d 287 (zstep ph (zEm ph d) 60 13 0 [30, 49] L st M) := zEv_step rfl
theorem e287_13 (ph : Bool) (d : Nat) (L st : List zV) (M : zM) : zEv ph d 287 13 L st M = zcont ph d 287 (zstep ph (zEm ph d) 5 14 0 [1] L st M) := zEv_step rfl
theorem e287_14 (ph : Bool) (d : Nat) (L st : List zV) (M : zM) : zEv ph d 287 14 L st M = zcont ph d 287 (zstep ph (zEm ph d) 4 15 0 [0] L st M) := zEv_step rfl
theorem e287_15 (ph : Bool) (d : Nat) (L st : List zV) (M : zM) : zEv ph d 287 15 L st M = zcont ph d 287 (zstep ph (zEm ph d) 0 17 0 [21] L st M) := zEv_step rfl
theorem e287_17 (ph : Bool) (d : Nat) (L st : List zV) (M : zM) : zEv ph d 287 17 L st M = zcont ph d 287 (zstep ph (zEm ph d) 70 20 179 [2, 1, 30] L st M) := zEv_step rfl
theorem e287_20 (ph : Bool) (d : Nat) (L st : List zV) (M : zM) : zEv ph d 287 20 L st M = zcont ph d 287 (zstep ph (zEm ph d) 40 23 51 [] L st M) := zEv_step rfl
theorem e287_23 (ph : Bool) (d : Nat) (L st : List zV) (M : zM) : zEv ph d 287 23 L st M = zcont ph d 287 (zstep ph (zEm ph d) 4 24 0 [0] L st M) := zEv_step rfl
theorem e287_24 (ph : Bool) (d : Nat) (L st : List zV) (M : zM) : zEv ph d 287 24 L st M = zcont ph d 287 (zstep ph (zEm ph d) 70 27 176 [1, 0, 30] L st M) := zEv_step rfl
theorem e287_27 (ph : Bool) (d : Nat) (L st : List zV) (M : zM) : zEv ph d 287 27 L st M = zcont ph d 287 (zstep ph (zEm ph d) 4 28 0 [0] L st M) := zEv_step rfl
theorem e287_28 (ph : Bool) (d : Nat) (L st : List zV) (M : zM) : zEv ph d 287 28 L st M = zcont ph d 287 (zstep ph (zEm ph d) 70 31 288 [1, 1, 30] L st M) := zEv_step rfl
theorem e287_31 (ph : Bool) (d : Nat) (L st : List zV) (M : zM) : zEv ph d 287 31 L st M = zcont ph d 287 (zstep ph (zEm ph d) 41 34 36 [] L st M) := zEv_step rfl
theorem e287_34 (ph : Bool) (d : Nat) (L st : List zV) (M : zM) : zEv ph d 287 34 L st M = zcont ph d 287 (zstep ph (zEm ph d) 0 35 0 [0] L st M) := zEv_step rfl
theorem e287_35 (ph : Bool) (d : Nat) (L st : List zV) (M : zM) : zEv ph d 287 35 L st M = zcont ph d 287 (zstep ph (zEm ph d) 80 36 0 [0, 1] L st M) := zEv_step rfl
theorem e287_36 (ph : Bool) (d : Nat) (L st : List zV) (M : zM) : zEv ph d 287 36 L st M = zcont ph d 287 (zstep ph (zEm ph d) 4 37 0 [0] L st M) := zEv_step rfl
theorem e287_37 (ph : Bool) (d : Nat) (L st : List zV) (M : zM) : zEv ph d 287 37 L st M = zcont ph d 287 (zstep ph (zEm ph d) 0 38 0 [3] L st M) := zEv_step rfl
theorem e287_38 (ph : Bool) (d : Nat) (L st : List zV) (M : zM) : zEv ph d 287 38 L st M = zcont ph d 287 (zstep ph (zEm ph d) 2 39 0 [1] L st M) := zEv_step rfl
theorem e287_39 (ph : Bool) (d : Nat) (L st : List zV) (M : zM) : zEv ph d 287 39 L st M = zcont ph d 287 (zstep ph (zEm ph d) 4 40 0 [0] L st M) := zEv_step rfl
theorem e287_40 (ph : Bool) (d : Nat) (L st : List zV) (M : zM) : zEv ph d 287 40 L st M = zcont ph d 287 (zstep ph (zEm ph d) 60 43 0 [30, 49] L st M) := zEv_step rfl
theorem e287_43 (ph : Bool) (d : Nat) (L st : List zV) (M : zM) : zEv ph d 287 43 L st M = zcont ph d 287 (zstep ph (zEm ph d) 0 44 0 [0] L st M) := zEv_step rfl
theorem e287_44 (ph : Bool) (d : Nat) (L st : List zV) (M : zM) : zEv ph d 287 44 L st M = zcont ph d 287 (zstep ph (zEm ph d) 70 47 286 [5, 1, 30] L st M) := zEv_step rfl
theorem e287_47 (ph : Bool) (d : Nat) (L st : List zV) (M : zM) : zEv ph d 287 47 L st M = zcont ph d 287 (zstep ph (zEm ph d) 5 48 0 [1] L st M) := zEv_step rfl
theorem e287_48 (ph : Bool) (d : Nat) (L st : List zV) (M : zM) : zEv ph d 287 48 L st M = zcont ph d 287 (zstep ph (zEm ph d) 52 51 14 [] L st M) := zEv_step rfl
theorem e287_51 (ph : Bool) (d : Nat) (L st : List zV) (M : zM) : zEv ph d 287 51 L st M = zcont ph d 287 (zstep ph (zEm ph d) 4 52 0 [0] L st M) := zEv_step rfl
theorem e287_52 (ph : Bool) (d : Nat) (L st : List zV) (M : zM) : zEv ph d 287 52 L st M = zcont ph d 287 (zstep ph (zEm ph d) 2 53 0 [1] L st M) := zEv_step rfl
theorem e287_53 (ph : Bool) (d : Nat) (L st : List zV) (M : zM) : zEv ph d 287 53 L st M = zcont ph d 287 (zstep ph (zEm ph d) 65 56 0 [30, 49] L st M) := zEv_step rfl
theorem e287_56 (ph : Bool) (d : Nat) (L st : List zV) (M : zM) : zEv ph d 287 56 L st M = zcont ph d 287 (zstep ph (zEm ph d) 0 57 0 [1] L st M) := zEv_step rfl
theorem e287_57 (ph : Bool) (d : Nat) (L st : List zV) (M : zM) : zEv ph d 287 57 L st M = zcont ph d 287 (zstep ph (zEm ph d) 80 58 0 [0, 1] L st M) := zEv_step rfl
theorem m288 (ph : Bool) (d : Nat) (a x0 : Int) (M : zM) : zEm ph (d + 1) 288 [(30, a, x0)] M = zEv ph d 288 0 [(30, a, x0), (3, 0, 0)] [] M := rfl
theorem e288_0 (ph : Bool) (d : Nat) (L st : List zV) (M : zM) : zEv ph d 288 0 L st M = zcont ph d 288 (zstep ph (zEm ph d) 4 1 0 [0] L st M) := zEv_step rfl
theorem e288_1 (ph : Bool) (d : Nat) (L st : List zV) (M : zM) : zEv ph d 288 1 L st M = zcont ph d 288 (zstep ph (zEm ph d) 70 4 289 [1, 1, 30] L st M) := zEv_step rfl
theorem e288_4 (ph : Bool) (d : Nat) (L st : List zV) (M : zM) : zEv ph d 288 4 L st M = zcont ph d 288 (zstep ph (zEm ph d) 41 7 9 [] L st M) := zEv_step rfl
theorem e288_7 (ph : Bool) (d : Nat) (L st : List zV) (M : zM) : zEv ph d 288 7 L st M = zcont ph d 288 (zstep ph (zEm ph d) 0 8 0 [0] L st M) := zEv_step rfl
theorem e288_8 (ph : Bool) (d : Nat) (L st : List zV) (M : zM) : zEv ph d 288 8 L st M = zcont ph d 288 (zstep ph (zEm ph d) 80 9 0 [0, 1] L st M) := zEv_step rfl
theorem e288_9 (ph : Bool) (d : Nat) (L st : List zV) (M : zM) : zEv ph d 288 9 L st M = zcont ph d 288 (zstep ph (zEm ph d) 4 10 0 [0] L st M) := zEv_step rfl
theorem e288_10 (ph : Bool) (d : Nat) (L st : List zV) (M : zM) : zEv ph d 288 10 L st M = zcont ph d 288 (zstep ph (zEm ph d) 60 13 0 [30, 49] L st M) := zEv_step rfl
theorem e288_13 (ph : Bool) (d : Nat) (L st : List zV) (M : zM) : zEv ph d 288 13 L st M = zcont ph d 288 (zstep ph (zEm ph d) 5 14 0 [1] L st M) := zEv_step rfl
theorem e288_14 (ph : Bool) (d : Nat) (L st : List zV) (M : zM) : zEv ph d 288 14 L st M = zcont ph d 288 (zstep ph (zEm ph d) 4 15 0 [0] L st M) := zEv_step rfl
theorem e288_15 (ph : Bool) (d : Nat) (L st : List zV) (M : zM) : zEv ph d 288 15 L st M = zcont ph d 288 (zstep ph (zEm ph d) 0 17 0 [22] L st M) := zEv_step rfl
theorem e288_17 (ph : Bool) (d : Nat) (L st : List zV) (M : zM) : zEv ph d 288 17 L st M = zcont ph d 288 (zstep ph (zEm ph d) 70 20 179 [2, 1, 30] L st M) := zEv_step rfl
theorem e288_20 (ph : Bool) (d : Nat) (L st : List zV) (M : zM) : zEv ph d 288 20 L st M = zcont ph d 288 (zstep ph (zEm ph d) 40 23 51 [] L st M) := zEv_step rfl
theorem e288_23 (ph : Bool) (d : Nat) (L st : List zV) (M : zM) : zEv ph d 288 23 L st M = zcont ph d 288 (zstep ph (zEm ph d) 4 24 0 [0] L st M) := zEv_step rfl
theorem e288_24 (ph : Bool) (d : Nat) (L st : List zV) (M : zM) : zEv ph d 288 24 L st M = zcont ph d 288 (zstep ph (zEm ph d) 70 27 176 [1, 0, 30] L st M) := zEv_step rfl
theorem e288_27 (ph : Bool) (d : Nat) (L st : List zV) (M : zM) : zEv ph d 288 27 L st M = zcont ph d 288 (zstep ph (zEm ph d) 4 28 0 [0] L st M) := zEv_step rfl
theorem e288_28 (ph : Bool) (d : Nat) (L st : List zV) (M : zM) : zEv ph d 288 28 L st M = zcont ph d 288 (zstep ph (zEm ph d) 70 31 289 [1, 1, 30] L st M) := zEv_step rfl
theorem e288_31 (ph : Bool) (d : Nat) (L st : List zV) (M : zM) : zEv ph d 288 31 L st M = zcont ph d 288 (zstep ph (zEm ph d) 41 34 36 [] L st M) := zEv_step rfl
theorem e288_34 (ph : Bool) (d : Nat) (L st : List zV) (M : zM) : zEv ph d 288 34 L st M = zcont ph d 288 (zstep ph (zEm ph d) 0 35 0 [0] L st M) := zEv_step rfl
theorem e288_35 (ph : Bool) (d : Nat) (L st : List zV) (M : zM) : zEv ph d 288 35 L st M = zcont ph d 288 (zstep ph (zEm ph d) 80 36 0 [0, 1] L st M) := zEv_step rfl
theorem e288_36 (ph : Bool) (d : Nat) (L st : List zV) (M : zM) : zEv ph d 288 36 L st M = zcont ph d 288 (zstep ph (zEm ph d) 4 37 0 [0] L st M) := zEv_step rfl
theorem e288_37 (ph : Bool) (d : Nat) (L st : List zV) (M : zM) : zEv ph d 288 37 L st M = zcont ph d 288 (zstep ph (zEm ph d) 0 38 0 [2] L st M) := zEv_step rfl
theorem e288_38 (ph : Bool) (d : Nat) (L st : List zV) (M : zM) : zEv ph d 288 38 L st M = zcont ph d 288 (zstep ph (zEm ph d) 2 39 0 [1] L st M) := zEv_step rfl
theorem e288_39 (ph : Bool) (d : Nat) (L st : List zV) (M : zM) : zEv ph d 288 39 L st M = zcont ph d 288 (zstep ph (zEm ph d) 4 40 0 [0] L st M) := zEv_step rfl
theorem e288_40 (ph : Bool) (d : Nat) (L st : List zV) (M : zM) : zEv ph d 288 40 L st M = zcont ph d 288 (zstep ph (zEm ph d) 60 43 0 [30, 49] L st M) := zEv_step rfl
theorem e288_43 (ph : Bool) (d : Nat) (L st : List zV) (M : zM) : zEv ph d 288 43 L st M = zcont ph d 288 (zstep ph (zEm ph d) 0 44 0 [0] L st M) := zEv_step rfl
theorem e288_44 (ph : Bool) (d : Nat) (L st : List zV) (M : zM) : zEv ph d 288 44 L st M = zcont ph d 288 (zstep ph (zEm ph d) 70 47 286 [5, 1, 30] L st M) := zEv_step rfl
theorem e288_47 (ph : Bool) (d : Nat) (L st : List zV) (M : zM) : zEv ph d 288 47 L st M = zcont ph d 288 (zstep ph (zEm ph d) 5 48 0 [1] L st M) := zEv_step rfl
theorem e288_48 (ph : Bool) (d : Nat) (L st : List zV) (M : zM) : zEv ph d 288 48 L st M = zcont ph d 288 (zstep ph (zEm ph d) 52 51 14 [] L st M) := zEv_step rfl
theorem e288_51 (ph : Bool) (d : Nat) (L st : List zV) (M : zM) : zEv ph d 288 51 L st M = zcont ph d 288 (zstep ph (zEm ph d) 4 52 0 [0] L st M) := zEv_step rfl
theorem e288_52 (ph : Bool) (d : Nat) (L st : List zV) (M : zM) : zEv ph d 288 52 L st M = zcont ph d 288 (zstep ph (zEm ph d) 2 53 0 [1] L st M) := zEv_step rfl
theorem e288_53 (ph : Bool) (d : Nat) (L st : List zV) (M : zM) : zEv ph d 288 53 L st M = zcont ph d 288 (zstep ph (zEm ph d) 65 56 0 [30, 49] L st M) := zEv_step rfl
theorem e288_56 (ph : Bool) (d : Nat) (L st : List zV) (M : zM) : zEv ph d 288 56 L st M = zcont ph d 288 (zstep ph (zEm ph d) 0 57 0 [1] L st M) := zEv_step rfl
theorem e288_57 (ph : Bool) (d : Nat) (L st : List zV) (M : zM) : zEv ph d 288 57 L st M = zcont ph d 288 (zstep ph (zEm ph d) 80 58 0 [0, 1] L st M) := zEv_step rfl
theorem m289 (ph : Bool) (d : Nat) (a x0 : Int) (M : zM) : zEm ph (d + 1) 289 [(30, a, x0)] M = zEv ph d 289 0 [(30, a, x0), (3, 0, 0), (3, 0, 0), (3, 0, 0)] [] M := rfl
theorem e289_0 (ph : Bool) (d : Nat) (L st : List zV) (M : zM) : zEv ph d 289 0 L st M = zcont ph d 289 (zstep ph (zEm ph d) 4 1 0 [0] L st M) := zEv_step rfl
theorem e289_1 (ph : Bool) (d : Nat) (L st : List zV) (M : zM) : zEv ph d 289 1 L st M = zcont ph d 289 (zstep ph (zEm ph d) 0 3 0 [40] L st M) := zEv_step rfl
theorem e289_3 (ph : Bool) (d : Nat) (L st : List zV) (M : zM) : zEv ph d 289 3 L st M = zcont ph d 289 (zstep ph (zEm ph d) 70 6 180 [2, 1, 30] L st M) := zEv_step rfl
theorem e289_6 (ph : Bool) (d : Nat) (L st : List zV) (M : zM) : zEv ph d 289 6 L st M = zcont ph d 289 (zstep ph (zEm ph d) 5 7 0 [1] L st M) := zEv_step rfl
theorem e289_7 (ph : Bool) (d : Nat) (L st : List zV) (M : zM) : zEv ph d 289 7 L st M = zcont ph d 289 (zstep ph (zEm ph d) 0 9 0 [23] L st M) := zEv_step rfl
theorem e289_9 (ph : Bool) (d : Nat) (L st : List zV) (M : zM) : zEv ph d 289 9 L st M = zcont ph d 289 (zstep ph (zEm ph d) 5 10 0 [2] L st M) := zEv_step rfl
theorem e289_10 (ph : Bool) (d : Nat) (L st : List zV) (M : zM) : zEv ph d 289 10 L st M = zcont ph d 289 (zstep ph (zEm ph d) 2 11 0 [2] L st M) := zEv_step rfl
theorem e289_11 (ph : Bool) (d : Nat) (L st : List zV) (M : zM) : zEv ph d 289 11 L st M = zcont ph d 289 (zstep ph (zEm ph d) 0 13 0 [31] L st M) := zEv_step rfl
theorem e289_13 (ph : Bool) (d : Nat) (L st : List zV) (M : zM) : zEv ph d 289 13 L st M = zcont ph d 289 (zstep ph (zEm ph d) 50 16 30 [] L st M) := zEv_step rfl
theorem e289_16 (ph : Bool) (d : Nat) (L st : List zV) (M : zM) : zEv ph d 289 16 L st M = zcont ph d 289 (zstep ph (zEm ph d) 4 17 0 [0] L st M) := zEv_step rfl
theorem e289_17 (ph : Bool) (d : Nat) (L st : List zV) (M : zM) : zEv ph d 289 17 L st M = zcont ph d 289 (zstep ph (zEm ph d) 2 18 0 [2] L st M) := zEv_step rfl
theorem e289_18 (ph : Bool) (d : Nat) (L st : List zV) (M : zM) : zEv ph d 289 18 L st M = zcont ph d 289 (zstep ph (zEm ph d) 70 21 179 [2, 1, 30] L st M) := zEv_step rfl
theorem e289_21 (ph : Bool) (d : Nat) (L st : List zV) (M : zM) : zEv ph d 289 21 L st M = zcont ph d 289 (zstep ph (zEm ph d) 41 24 30 [] L st M) := zEv_step rfl
theorem e289_24 (ph : Bool) (d : Nat) (L st : List zV) (M : zM) : zEv ph d 289 24 L st M = zcont ph d 289 (zstep ph (zEm ph d) 8 27 0 [2, 1] L st M) := zEv_step rfl
theorem e289_27 (ph : Bool) (d : Nat) (L st : List zV) (M : zM) : zEv ph d 289 27 L st M = zcont ph d 289 (zstep ph (zEm ph d) 52 30 10 [] L st M) := zEv_step rfl
theorem e289_30 (ph : Bool) (d : Nat) (L st : List zV) (M : zM) : zEv ph d 289 30 L st M = zcont ph d 289 (zstep ph (zEm ph d) 2 31 0 [1] L st M) := zEv_step rfl
theorem e289_31 (ph : Bool) (d : Nat) (L st : List zV) (M : zM) : zEv ph d 289 31 L st M = zcont ph d 289 (zstep ph (zEm ph d) 41 34 46 [] L st M) := zEv_step rfl
theorem e289_34 (ph : Bool) (d : Nat) (L st : List zV) (M : zM) : zEv ph d 289 34 L st M = zcont ph d 289 (zstep ph (zEm ph d) 2 35 0 [2] L st M) := zEv_step rfl
theorem e289_35 (ph : Bool) (d : Nat) (L st : List zV) (M : zM) : zEv ph d 289 35 L st M = zcont ph d 289 (zstep ph (zEm ph d) 0 37 0 [31] L st M) := zEv_step rfl
theorem e289_37 (ph : Bool) (d : Nat) (L st : List zV) (M : zM) : zEv ph d 289 37 L st M = zcont ph d 289 (zstep ph (zEm ph d) 51 40 46 [] L st M) := zEv_step rfl
theorem e289_40 (ph : Bool) (d : Nat) (L st : List zV) (M : zM) : zEv ph d 289 40 L st M = zcont ph d 289 (zstep ph (zEm ph d) 4 41 0 [0] L st M) := zEv_step rfl
theorem e289_41 (ph : Bool) (d : Nat) (L st : List zV) (M : zM) : zEv ph d 289 41 L st M = zcont ph d 289 (zstep ph (zEm ph d) 0 42 0 [1] L st M) := zEv_step rfl
theorem e289_42 (ph : Bool) (d : Nat) (L st : List zV) (M : zM) : zEv ph d 289 42 L st M = zcont ph d 289 (zstep ph (zEm ph d) 70 45 182 [2, 1, 30] L st M) := zEv_step rfl
theorem e289_45 (ph : Bool) (d : Nat) (L st : List zV) (M : zM) : zEv ph d 289 45 L st M = zcont ph d 289 (zstep ph (zEm ph d) 80 46 0 [0, 1] L st M) := zEv_step rfl
theorem e289_46 (ph : Bool) (d : Nat) (L st : List zV) (M : zM) : zEv ph d 289 46 L st M = zcont ph d 289 (zstep ph (zEm ph d) 4 47 0 [0] L st M) := zEv_step rfl
theorem e289_47 (ph : Bool) (d : Nat) (L st : List zV) (M : zM) : zEv ph d 289 47 L st M = zcont ph d 289 (zstep ph (zEm ph d) 60 50 0 [30, 47] L st M) := zEv_step rfl
theorem e289_50 (ph : Bool) (d : Nat) (L st : List zV) (M : zM) : zEv ph d 289 50 L st M = zcont ph d 289 (zstep ph (zEm ph d) 0 52 0 [20] L st M) := zEv_step rfl
theorem e289_52 (ph : Bool) (d : Nat) (L st : List zV) (M : zM) : zEv ph d 289 52 L st M = zcont ph d 289 (zstep ph (zEm ph d) 46 55 64 [] L st M) := zEv_step rfl
theorem e289_55 (ph : Bool) (d : Nat) (L st : List zV) (M : zM) : zEv ph d 289 55 L st M = zcont ph d 289 (zstep ph (zEm ph d) 4 56 0 [0] L st M) := zEv_step rfl
theorem e289_56 (ph : Bool) (d : Nat) (L st : List zV) (M : zM) : zEv ph d 289 56 L st M = zcont ph d 289 (zstep ph (zEm ph d) 60 59 0 [30, 48] L st M) := zEv_step rfl
theorem e289_59 (ph : Bool) (d : Nat) (L st : List zV) (M : zM) : zEv ph d 289 59 L st M = zcont ph d 289 (zstep ph (zEm ph d) 0 61 0 [8] L st M) := zEv_step rfl
theorem e289_61 (ph : Bool) (d : Nat) (L st : List zV) (M : zM) : zEv ph d 289 61 L st M = zcont ph d 289 (zstep ph (zEm ph d) 47 64 70 [] L st M) := zEv_step rfl
theorem e289_64 (ph : Bool) (d : Nat) (L st : List zV) (M : zM) : zEv ph d 289 64 L st M = zcont ph d 289 (zstep ph (zEm ph d) 4 65 0 [0] L st M) := zEv_step rfl
theorem e289_65 (ph : Bool) (d : Nat) (L st : List zV) (M : zM) : zEv ph d 289 65 L st M = zcont ph d 289 (zstep ph (zEm ph d) 0 66 0 [4] L st M) := zEv_step rfl
theorem e289_66 (ph : Bool) (d : Nat) (L st : List zV) (M : zM) : zEv ph d 289 66 L st M = zcont ph d 289 (zstep ph (zEm ph d) 70 69 182 [2, 1, 30] L st M) := zEv_step rfl
theorem e289_69 (ph : Bool) (d : Nat) (L st : List zV) (M : zM) : zEv ph d 289 69 L st M = zcont ph d 289 (zstep ph (zEm ph d) 80 70 0 [0, 1] L st M) := zEv_step rfl
theorem e289_70 (ph : Bool) (d : Nat) (L st : List zV) (M : zM) : zEv ph d 289 70 L st M = zcont ph d 289 (zstep ph (zEm ph d) 4 71 0 [0] L st M) := zEv_step rfl
theorem e289_71 (ph : Bool) (d : Nat) (L st : List zV) (M : zM) : zEv ph d 289 71 L st M = zcont ph d 289 (zstep ph (zEm ph d) 36 72 0 [] L st M) := zEv_step rfl
theorem e289_72 (ph : Bool) (d : Nat) (L st : List zV) (M : zM) : zEv ph d 289 72 L st M = zcont ph d 289 (zstep ph (zEm ph d) 60 75 0 [30, 47] L st M) := zEv_step rfl
theorem e289_75 (ph : Bool) (d : Nat) (L st : List zV) (M : zM) : zEv ph d 289 75 L st M = zcont ph d 289 (zstep ph (zEm ph d) 0 76 0 [1] L st M) := zEv_step rfl
theorem e289_76 (ph : Bool) (d : Nat) (L st : List zV) (M : zM) : zEv ph d 289 76 L st M = zcont ph d 289 (zstep ph (zEm ph d) 10 77 0 [] L st M) := zEv_step rfl
theorem e289_77 (ph : Bool) (d : Nat) (L st : List zV) (M : zM) : zEv ph d 289 77 L st M = zcont ph d 289 (zstep ph (zEm ph d) 65 80 0 [30, 47] L st M) := zEv_step rfl
theorem e289_80 (ph : Bool) (d : Nat) (L st : List zV) (M : zM) : zEv ph d 289 80 L st M = zcont ph d 289 (zstep ph (zEm ph d) 4 81 0 [0] L st M) := zEv_step rfl
theorem e289_81 (ph : Bool) (d : Nat) (L st : List zV) (M : zM) : zEv ph d 289 81 L st M = zcont ph d 289 (zstep ph (zEm ph d) 36 82 0 [] L st M) := zEv_step rfl
theorem e289_82 (ph : Bool) (d : Nat) (L st : List zV) (M : zM) : zEv ph d 289 82 L st M = zcont ph d 289 (zstep ph (zEm ph d) 60 85 0 [30, 48] L st M) := zEv_step rfl
theorem e289_85 (ph : Bool) (d : Nat) (L st : List zV) (M : zM) : zEv ph d 289 85 L st M = zcont ph d 289 (zstep ph (zEm ph d) 0 86 0 [1] L st M) := zEv_step rfl
theorem e289_86 (ph : Bool) (d : Nat) (L st : List zV) (M : zM) : zEv ph d 289 86 L st M = zcont ph d 289 (zstep ph (zEm ph d) 10 87 0 [] L st M) := zEv_step rfl
theorem e289_87 (ph : Bool) (d : Nat) (L st : List zV) (M : zM) : zEv ph d 289 87 L st M = zcont ph d 289 (zstep ph (zEm ph d) 65 90 0 [30, 48] L st M) := zEv_step rfl
theorem e289_90 (ph : Bool) (d : Nat) (L st : List zV) (M : zM) : zEv ph d 289 90 L st M = zcont ph d 289 (zstep ph (zEm ph d) 4 91 0 [0] L st M) := zEv_step rfl
theorem e289_91 (ph : Bool) (d : Nat) (L st : List zV) (M : zM) : zEv ph d 289 91 L st M = zcont ph d 289 (zstep ph (zEm ph d) 70 94 176 [1, 0, 30] L st M) := zEv_step rfl
theorem e289_94 (ph : Bool) (d : Nat) (L st : List zV) (M : zM) : zEv ph d 289 94 L st M = zcont ph d 289 (zstep ph (zEm ph d) 0 95 0 [1] L st M) := zEv_step rfl
theorem e289_95 (ph : Bool) (d : Nat) (L st : List zV) (M : zM) : zEv ph d 289 95 L st M = zcont ph d 289 (zstep ph (zEm ph d) 5 96 0 [3] L st M) := zEv_step rfl
theorem e289_96 (ph : Bool) (d : Nat) (L st : List zV) (M : zM) : zEv ph d 289 96 L st M = zcont ph d 289 (zstep ph (zEm ph d) 2 97 0 [1] L st M) := zEv_step rfl
theorem e289_97 (ph : Bool) (d : Nat) (L st : List zV) (M : zM) : zEv ph d 289 97 L st M = zcont ph d 289 (zstep ph (zEm ph d) 40 100 108 [] L st M) := zEv_step rfl
theorem e289_100 (ph : Bool) (d : Nat) (L st : List zV) (M : zM) : zEv ph d 289 100 L st M = zcont ph d 289 (zstep ph (zEm ph d) 4 101 0 [0] L st M) := zEv_step rfl
theorem e289_101 (ph : Bool) (d : Nat) (L st : List zV) (M : zM) : zEv ph d 289 101 L st M = zcont ph d 289 (zstep ph (zEm ph d) 70 104 291 [1, 1, 30] L st M) := zEv_step rfl
theorem e289_104 (ph : Bool) (d : Nat) (L st : List zV) (M : zM) : zEv ph d 289 104 L st M = zcont ph d 289 (zstep ph (zEm ph d) 5 105 0 [3] L st M) := zEv_step rfl
theorem e289_105 (ph : Bool) (d : Nat) (L st : List zV) (M : zM) : zEv ph d 289 105 L st M = zcont ph d 289 (zstep ph (zEm ph d) 52 108 166 [] L st M) := zEv_step rfl
theorem e289_108 (ph : Bool) (d : Nat) (L st : List zV) (M : zM) : zEv ph d 289 108 L st M = zcont ph d 289 (zstep ph (zEm ph d) 2 109 0 [2] L st M) := zEv_step rfl
theorem e289_109 (ph : Bool) (d : Nat) (L st : List zV) (M : zM) : zEv ph d 289 109 L st M = zcont ph d 289 (zstep ph (zEm ph d) 0 111 0 [23] L st M) := zEv_step rfl
theorem e289_111 (ph : Bool) (d : Nat) (L st : List zV) (M : zM) : zEv ph d 289 111 L st M = zcont ph d 289 (zstep ph (zEm ph d) 47 114 122 [] L st M) := zEv_step rfl
theorem e289_114 (ph : Bool) (d : Nat) (L st : List zV) (M : zM) : zEv ph d 289 114 L st M = zcont ph d 289 (zstep ph (zEm ph d) 4 115 0 [0] L st M) := zEv_step rfl
theorem e289_115 (ph : Bool) (d : Nat) (L st : List zV) (M : zM) : zEv ph d 289 115 L st M = zcont ph d 289 (zstep ph (zEm ph d) 70 118 290 [1, 1, 30] L st M) := zEv_step rfl
theorem e289_118 (ph : Bool) (d : Nat) (L st : List zV) (M : zM) : zEv ph d 289 118 L st M = zcont ph d 289 (zstep ph (zEm ph d) 5 119 0 [3] L st M) := zEv_step rfl
theorem e289_119 (ph : Bool) (d : Nat) (L st : List zV) (M : zM) : zEv ph d 289 119 L st M = zcont ph d 289 (zstep ph (zEm ph d) 52 122 166 [] L st M) := zEv_step rfl
theorem e289_122 (ph : Bool) (d : Nat) (L st : List zV) (M : zM) : zEv ph d 289 122 L st M = zcont ph d 289 (zstep ph (zEm ph d) 2 123 0 [2] L st M) := zEv_step rfl
theorem e289_123 (ph : Bool) (d : Nat) (L st : List zV) (M : zM) : zEv ph d 289 123 L st M = zcont ph d 289 (zstep ph (zEm ph d) 0 125 0 [26] L st M) := zEv_step rfl
theorem e289_125 (ph : Bool) (d : Nat) (L st : List zV) (M : zM) : zEv ph d 289 125 L st M = zcont ph d 289 (zstep ph (zEm ph d) 49 128 146 [] L st M) := zEv_step rfl
theorem e289_128 (ph : Bool) (d : Nat) (L st : List zV) (M : zM) : zEv ph d 289 128 L st M = zcont ph d 289 (zstep ph (zEm ph d) 4 129 0 [0] L st M) := zEv_step rfl
theorem e289_129 (ph : Bool) (d : Nat) (L st : List zV) (M : zM) : zEv ph d 289 129 L st M = zcont ph d 289 (zstep ph (zEm ph d) 4 130 0 [0] L st M) := zEv_step rfl
theorem e289_130 (ph : Bool) (d : Nat) (L st : List zV) (M : zM) : zEv ph d 289 130 L st M = zcont ph d 289 (zstep ph (zEm ph d) 0 132 0 [50] L st M) := zEv_step rfl
theorem e289_132 (ph : Bool) (d : Nat) (L st : List zV) (M : zM) : zEv ph d 289 132 L st M = zcont ph d 289 (zstep ph (zEm ph d) 2 133 0 [2] L st M) := zEv_step rfl
theorem e289_133 (ph : Bool) (d : Nat) (L st : List zV) (M : zM) : zEv ph d 289 133 L st M = zcont ph d 289 (zstep ph (zEm ph d) 10 134 0 [] L st M) := zEv_step rfl
theorem e289_134 (ph : Bool) (d : Nat) (L st : List zV) (M : zM) : zEv ph d 289 134 L st M = zcont ph d 289 (zstep ph (zEm ph d) 0 135 0 [0] L st M) := zEv_step rfl
theorem e289_135 (ph : Bool) (d : Nat) (L st : List zV) (M : zM) : zEv ph d 289 135 L st M = zcont ph d 289 (zstep ph (zEm ph d) 0 136 0 [0] L st M) := zEv_step rfl
theorem e289_136 (ph : Bool) (d : Nat) (L st : List zV) (M : zM) : zEv ph d 289 136 L st M = zcont ph d 289 (zstep ph (zEm ph d) 0 137 0 [0] L st M) := zEv_step rfl
theorem e289_137 (ph : Bool) (d : Nat) (L st : List zV) (M : zM) : zEv ph d 289 137 L st M = zcont ph d 289 (zstep ph (zEm ph d) 70 140 286 [5, 1, 30] L st M) := zEv_step rfl
theorem e289_140 (ph : Bool) (d : Nat) (L st : List zV) (M : zM) : zEv ph d 289 140 L st M = zcont ph d 289 (zstep ph (zEm ph d) 65 143 0 [30, 49] L st M) := zEv_step rfl
theorem e289_143 (ph : Bool) (d : Nat) (L st : List zV) (M : zM) : zEv ph d 289 143 L st M = zcont ph d 289 (zstep ph (zEm ph d) 52 146 166 [] L st M) := zEv_step rfl
theorem e289_146 (ph : Bool) (d : Nat) (L st : List zV) (M : zM) : zEv ph d 289 146 L st M = zcont ph d 289 (zstep ph (zEm ph d) 2 147 0 [2] L st M) := zEv_step rfl
theorem e289_147 (ph : Bool) (d : Nat) (L st : List zV) (M : zM) : zEv ph d 289 147 L st M = zcont ph d 289 (zstep ph (zEm ph d) 0 149 0 [29] L st M) := zEv_step rfl
theorem e289_149 (ph : Bool) (d : Nat) (L st : List zV) (M : zM) : zEv ph d 289 149 L st M = zcont ph d 289 (zstep ph (zEm ph d) 49 152 160 [] L st M) := zEv_step rfl
theorem e289_152 (ph : Bool) (d : Nat) (L st : List zV) (M : zM) : zEv ph d 289 152 L st M = zcont ph d 289 (zstep ph (zEm ph d) 4 153 0 [0] L st M) := zEv_step rfl
theorem e289_153 (ph : Bool) (d : Nat) (L st : List zV) (M : zM) : zEv ph d 289 153 L st M = zcont ph d 289 (zstep ph (zEm ph d) 2 154 0 [2] L st M) := zEv_step rfl
theorem e289_154 (ph : Bool) (d : Nat) (L st : List zV) (M : zM) : zEv ph d 289 154 L st M = zcont ph d 289 (zstep ph (zEm ph d) 70 157 292 [2, 1, 30] L st M) := zEv_step rfl
theorem e289_157 (ph : Bool) (d : Nat) (L st : List zV) (M : zM) : zEv ph d 289 157 L st M = zcont ph d 289 (zstep ph (zEm ph d) 52 160 165 [] L st M) := zEv_step rfl
theorem e289_160 (ph : Bool) (d : Nat) (L st : List zV) (M : zM) : zEv ph d 289 160 L st M = zcont ph d 289 (zstep ph (zEm ph d) 4 161 0 [0] L st M) := zEv_step rfl
theorem e289_161 (ph : Bool) (d : Nat) (L st : List zV) (M : zM) : zEv ph d 289 161 L st M = zcont ph d 289 (zstep ph (zEm ph d) 2 162 0 [2] L st M) := zEv_step rfl
theorem e289_162 (ph : Bool) (d : Nat) (L st : List zV) (M : zM) : zEv ph d 289 162 L st M = zcont ph d 289 (zstep ph (zEm ph d) 70 165 293 [2, 1, 30] L st M) := zEv_step rfl
theorem e289_165 (ph : Bool) (d : Nat) (L st : List zV) (M : zM) : zEv ph d 289 165 L st M = zcont ph d 289 (zstep ph (zEm ph d) 5 166 0 [3] L st M) := zEv_step rfl
theorem e289_166 (ph : Bool) (d : Nat) (L st : List zV) (M : zM) : zEv ph d 289 166 L st M = zcont ph d 289 (zstep ph (zEm ph d) 4 167 0 [0] L st M) := zEv_step rfl
theorem e289_167 (ph : Bool) (d : Nat) (L st : List zV) (M : zM) : zEv ph d 289 167 L st M = zcont ph d 289 (zstep ph (zEm ph d) 36 168 0 [] L st M) := zEv_step rfl
theorem e289_168 (ph : Bool) (d : Nat) (L st : List zV) (M : zM) : zEv ph d 289 168 L st M = zcont ph d 289 (zstep ph (zEm ph d) 60 171 0 [30, 48] L st M) := zEv_step rfl
theorem e289_171 (ph : Bool) (d : Nat) (L st : List zV) (M : zM) : zEv ph d 289 171 L st M = zcont ph d 289 (zstep ph (zEm ph d) 0 172 0 [1] L st M) := zEv_step rfl
theorem e289_172 (ph : Bool) (d : Nat) (L st : List zV) (M : zM) : zEv ph d 289 172 L st M = zcont ph d 289 (zstep ph (zEm ph d) 11 173 0 [] L st M) := zEv_step rfl
theorem e289_173 (ph : Bool) (d : Nat) (L st : List zV) (M : zM) : zEv ph d 289 173 L st M = zcont ph d 289 (zstep ph (zEm ph d) 65 176 0 [30, 48] L st M) := zEv_step rfl
theorem e289_176 (ph : Bool) (d : Nat) (L st : List zV) (M : zM) : zEv ph d 289 176 L st M = zcont ph d 289 (zstep ph (zEm ph d) 2 177 0 [3] L st M) := zEv_step rfl
theorem e289_177 (ph : Bool) (d : Nat) (L st : List zV) (M : zM) : zEv ph d 289 177 L st M = zcont ph d 289 (zstep ph (zEm ph d) 80 178 0 [0, 1] L st M) := zEv_step rfl
theorem m291 (ph : Bool) (d : Nat) (a x0 : Int) (M : zM) : zEm ph (d + 1) 291 [(30, a, x0)] M = zEv ph d 291 0 [(30, a, x0)] [] M := rfl
theorem e291_0 (ph : Bool) (d : Nat) (L st : List zV) (M : zM) : zEv ph d 291 0 L st M = zcont ph d 291 (zstep ph (zEm ph d) 4 1 0 [0] L st M) := zEv_step rfl
theorem e291_1 (ph : Bool) (d : Nat) (L st : List zV) (M : zM) : zEv ph d 291 1 L st M = zcont ph d 291 (zstep ph (zEm ph d) 70 4 287 [1, 1, 30] L st M) := zEv_step rfl
theorem e291_4 (ph : Bool) (d : Nat) (L st : List zV) (M : zM) : zEv ph d 291 4 L st M = zcont ph d 291 (zstep ph (zEm ph d) 41 7 9 [] L st M) := zEv_step rfl
theorem e291_7 (ph : Bool) (d : Nat) (L st : List zV) (M : zM) : zEv ph d 291 7 L st M = zcont ph d 291 (zstep ph (zEm ph d) 0 8 0 [0] L st M) := zEv_step rfl
theorem e291_8 (ph : Bool) (d : Nat) (L st : List zV) (M : zM) : zEv ph d 291 8 L st M = zcont ph d 291 (zstep ph (zEm ph d) 80 9 0 [0, 1] L st M) := zEv_step rfl
theorem e291_9 (ph : Bool) (d : Nat) (L st : List zV) (M : zM) : zEv ph d 291 9 L st M = zcont ph d 291 (zstep ph (zEm ph d) 4 10 0 [0] L st M) := zEv_step rfl
theorem e291_10 (ph : Bool) (d : Nat) (L st : List zV) (M : zM) : zEv ph d 291 10 L st M = zcont ph d 291 (zstep ph (zEm ph d) 0 12 0 [41] L st M) := zEv_step rfl
theorem e291_12 (ph : Bool) (d : Nat) (L st : List zV) (M : zM) : zEv ph d 291 12 L st M = zcont ph d 291 (zstep ph (zEm ph d) 70 15 180 [2, 1, 30] L st M) := zEv_step rfl
theorem e291_15 (ph : Bool) (d : Nat) (L st : List zV) (M : zM) : zEv ph d 291 15 L st M = zcont ph d 291 (zstep ph (zEm ph d) 41 18 24 [] L st M) := zEv_step rfl
theorem e291_18 (ph : Bool) (d : Nat) (L st : List zV) (M : zM) : zEv ph d 291 18 L st M = zcont ph d 291 (zstep ph (zEm ph d) 4 19 0 [0] L st M) := zEv_step rfl
theorem e291_19 (ph : Bool) (d : Nat) (L st : List zV) (M : zM) : zEv ph d 291 19 L st M = zcont ph d 291 (zstep ph (zEm ph d) 0 20 0 [1] L st M) := zEv_step rfl
theorem e291_20 (ph : Bool) (d : Nat) (L st : List zV) (M : zM) : zEv ph d 291 20 L st M = zcont ph d 291 (zstep ph (zEm ph d) 70 23 182 [2, 1, 30] L st M) := zEv_step rfl
theorem e291_23 (ph : Bool) (d : Nat) (L st : List zV) (M : zM) : zEv ph d 291 23 L st M = zcont ph d 291 (zstep ph (zEm ph d) 80 24 0 [0, 1] L st M) := zEv_step rfl
theorem e291_24 (ph : Bool) (d : Nat) (L st : List zV) (M : zM) : zEv ph d 291 24 L st M = zcont ph d 291 (zstep ph (zEm ph d) 4 25 0 [0] L st M) := zEv_step rfl
theorem e291_25 (ph : Bool) (d : Nat) (L st : List zV) (M : zM) : zEv ph d 291 25 L st M = zcont ph d 291 (zstep ph (zEm ph d) 70 28 176 [1, 0, 30] L st M) := zEv_step rfl
theorem e291_28 (ph : Bool) (d : Nat) (L st : List zV) (M : zM) : zEv ph d 291 28 L st M = zcont ph d 291 (zstep ph (zEm ph d) 0 29 0 [1] L st M) := zEv_step rfl
theorem e291_29 (ph : Bool) (d : Nat) (L st : List zV) (M : zM) : zEv ph d 291 29 L st M = zcont ph d 291 (zstep ph (zEm ph d) 80 30 0 [0, 1] L st M) := zEv_step rfl
theorem m290 (ph : Bool) (d : Nat) (a x0 : Int) (M : zM) : zEm ph (d + 1) 290 [(30, a, x0)] M = zEv ph d 290 0 [(30, a, x0)] [] M := rfl
theorem e290_0 (ph : Bool) (d : Nat) (L st : List zV) (M : zM) : zEv ph d 290 0 L st M = zcont ph d 290 (zstep ph (zEm ph d) 4 1 0 [0] L st M) := zEv_step rfl
theorem e290_1 (ph : Bool) (d : Nat) (L st : List zV) (M : zM) : zEv ph d 290 1 L st M = zcont ph d 290 (zstep ph (zEm ph d) 70 4 289 [1, 1, 30] L st M) := zEv_step rfl
theorem e290_4 (ph : Bool) (d : Nat) (L st : List zV) (M : zM) : zEv ph d 290 4 L st M = zcont ph d 290 (zstep ph (zEm ph d) 41 7 9 [] L st M) := zEv_step rfl
theorem e290_7 (ph : Bool) (d : Nat) (L st : List zV) (M : zM) : zEv ph d 290 7 L st M = zcont ph d 290 (zstep ph (zEm ph d) 0 8 0 [0] L st M) := zEv_step rfl
theorem e290_8 (ph : Bool) (d : Nat) (L st : List zV) (M : zM) : zEv ph d 290 8 L st M = zcont ph d 290 (zstep ph (zEm ph d) 80 9 0 [0, 1] L st M) := zEv_step rfl
theorem e290_9 (ph : Bool) (d : Nat) (L st : List zV) (M : zM) : zEv ph d 290 9 L st M = zcont ph d 290 (zstep ph (zEm ph d) 4 10 0 [0] L st M) := zEv_step rfl
theorem e290_10 (ph : Bool) (d : Nat) (L st : List zV) (M : zM) : zEv ph d 290 10 L st M = zcont ph d 290 (zstep ph (zEm ph d) 4 11 0 [0] L st M) := zEv_step rfl
theorem e290_11 (ph : Bool) (d : Nat) (L st : List zV) (M : zM) : zEv ph d 290 11 L st M = zcont ph d 290 (zstep ph (zEm ph d) 0 12 0 [1] L st M) := zEv_step rfl
theorem e290_12 (ph : Bool) (d : Nat) (L st : List zV) (M : zM) : zEv ph d 290 12 L st M = zcont ph d 290 (zstep ph (zEm ph d) 4 13 0 [0] L st M) := zEv_step rfl
theorem e290_13 (ph : Bool) (d : Nat) (L st : List zV) (M : zM) : zEv ph d 290 13 L st M = zcont ph d 290 (zstep ph (zEm ph d) 60 16 0 [30, 49] L st M) := zEv_step rfl
theorem e290_16 (ph : Bool) (d : Nat) (L st : List zV) (M : zM) : zEv ph d 290 16 L st M = zcont ph d 290 (zstep ph (zEm ph d) 0 17 0 [0] L st M) := zEv_step rfl
theorem e290_17 (ph : Bool) (d : Nat) (L st : List zV) (M : zM) : zEv ph d 290 17 L st M = zcont ph d 290 (zstep ph (zEm ph d) 0 18 0 [0] L st M) := zEv_step rfl
theorem e290_18 (ph : Bool) (d : Nat) (L st : List zV) (M : zM) : zEv ph d 290 18 L st M = zcont ph d 290 (zstep ph (zEm ph d) 70 21 286 [5, 1, 30] L st M) := zEv_step rfl
theorem e290_21 (ph : Bool) (d : Nat) (L st : List zV) (M : zM) : zEv ph d 290 21 L st M = zcont ph d 290 (zstep ph (zEm ph d) 65 24 0 [30, 49] L st M) := zEv_step rfl
theorem e290_24 (ph : Bool) (d : Nat) (L st : List zV) (M : zM) : zEv ph d 290 24 L st M = zcont ph d 290 (zstep ph (zEm ph d) 0 25 0 [1] L st M) := zEv_step rfl
theorem e290_25 (ph : Bool) (d : Nat) (L st : List zV) (M : zM) : zEv ph d 290 25 L st M = zcont ph d 290 (zstep ph (zEm ph d) 80 26 0 [0, 1] L st M) := zEv_step rfl
theorem m292 (ph : Bool) (d : Nat) (a x0 p0 y0 : Int) (M : zM) : zEm ph (d + 1) 292 [(30, a, x0), (0, p0, y0)] M = zEv ph d 292 0 [(30, a, x0), (0, p0, y0)] [] M := rfl
theorem e292_0 (ph : Bool) (d : Nat) (L st : List zV) (M : zM) : zEv ph d 292 0 L st M = zcont ph d 292 (zstep ph (zEm ph d) 4 1 0 [0] L st M) := zEv_step rfl
theorem e292_1 (ph : Bool) (d : Nat) (L st : List zV) (M : zM) : zEv ph d 292 1 L st M = zcont ph d 292 (zstep ph (zEm ph d) 2 2 0 [1] L st M) := zEv_step rfl
theorem e292_2 (ph : Bool) (d : Nat) (L st : List zV) (M : zM) : zEv ph d 292 2 L st M = zcont ph d 292 (zstep ph (zEm ph d) 0 4 0 [26] L st M) := zEv_step rfl
theorem e292_4 (ph : Bool) (d : Nat) (L st : List zV) (M : zM) : zEv ph d 292 4 L st M = zcont ph d 292 (zstep ph (zEm ph d) 47 7 11 [] L st M) := zEv_step rfl
theorem e292_7 (ph : Bool) (d : Nat) (L st : List zV) (M : zM) : zEv ph d 292 7 L st M = zcont ph d 292 (zstep ph (zEm ph d) 0 8 0 [0] L st M) := zEv_step rfl
theorem e292_8 (ph : Bool) (d : Nat) (L st : List zV) (M : zM) : zEv ph d 292 8 L st M = zcont ph d 292 (zstep ph (zEm ph d) 52 11 13 [] L st M) := zEv_step rfl
theorem e292_11 (ph : Bool) (d : Nat) (L st : List zV) (M : zM) : zEv ph d 292 11 L st M = zcont ph d 292 (zstep ph (zEm ph d) 0 13 0 [15] L st M) := zEv_step rfl
theorem e292_13 (ph : Bool) (d : Nat) (L st : List zV) (M : zM) : zEv ph d 292 13 L st M = zcont ph d 292 (zstep ph (zEm ph d) 4 14 0 [0] L st M) := zEv_step rfl
theorem e292_14 (ph : Bool) (d : Nat) (L st : List zV) (M : zM) : zEv ph d 292 14 L st M = zcont ph d 292 (zstep ph (zEm ph d) 62 17 0 [30, 14, 2, 10, 368] L st M) := zEv_step rfl
theorem e292_17 (ph : Bool) (d : Nat) (L st : List zV) (M : zM) : zEv ph d 292 17 L st M = zcont ph d 292 (zstep ph (zEm ph d) 2 18 0 [1] L st M) := zEv_step rfl
theorem e292_18 (ph : Bool) (d : Nat) (L st : List zV) (M : zM) : zEv ph d 292 18 L st M = zcont ph d 292 (zstep ph (zEm ph d) 0 20 0 [26] L st M) := zEv_step rfl
theorem e292_20 (ph : Bool) (d : Nat) (L st : List zV) (M : zM) : zEv ph d 292 20 L st M = zcont ph d 292 (zstep ph (zEm ph d) 47 23 27 [] L st M) := zEv_step rfl
theorem e292_23 (ph : Bool) (d : Nat) (L st : List zV) (M : zM) : zEv ph d 292 23 L st M = zcont ph d 292 (zstep ph (zEm ph d) 0 24 0 [0] L st M) := zEv_step rfl
theorem e292_24 (ph : Bool) (d : Nat) (L st : List zV) (M : zM) : zEv ph d 292 24 L st M = zcont ph d 292 (zstep ph (zEm ph d) 52 27 28 [] L st M) := zEv_step rfl
theorem e292_27 (ph : Bool) (d : Nat) (L st : List zV) (M : zM) : zEv ph d 292 27 L st M = zcont ph d 292 (zstep ph (zEm ph d) 0 28 0 [2] L st M) := zEv_step rfl
theorem e292_28 (ph : Bool) (d : Nat) (L st : List zV) (M : zM) : zEv ph d 292 28 L st M = zcont ph d 292 (zstep ph (zEm ph d) 85 29 0 [] L st M) := zEv_step rfl
theorem e292_29 (ph : Bool) (d : Nat) (L st : List zV) (M : zM) : zEv ph d 292 29 L st M = zcont ph d 292 (zstep ph (zEm ph d) 70 32 275 [3, 1, 30] L st M) := zEv_step rfl
theorem e292_32 (ph : Bool) (d : Nat) (L st : List zV) (M : zM) : zEv ph d 292 32 L st M = zcont ph d 292 (zstep ph (zEm ph d) 41 35 37 [] L st M) := zEv_step rfl
theorem e292_35 (ph : Bool) (d : Nat) (L st : List zV) (M : zM) : zEv ph d 292 35 L st M = zcont ph d 292 (zstep ph (zEm ph d) 0 36 0 [0] L st M) := zEv_step rfl
theorem e292_36 (ph : Bool) (d : Nat) (L st : List zV) (M : zM) : zEv ph d 292 36 L st M = zcont ph d 292 (zstep ph (zEm ph d) 80 37 0 [0, 1] L st M) := zEv_step rfl
theorem e292_37 (ph : Bool) (d : Nat) (L st : List zV) (M : zM) : zEv ph d 292 37 L st M = zcont ph d 292 (zstep ph (zEm ph d) 4 38 0 [0] L st M) := zEv_step rfl
theorem e292_38 (ph : Bool) (d : Nat) (L st : List zV) (M : zM) : zEv ph d 292 38 L st M = zcont ph d 292 (zstep ph (zEm ph d) 4 39 0 [0] L st M) := zEv_step rfl
theorem e292_39 (ph : Bool) (d : Nat) (L st : List zV) (M : zM) : zEv ph d 292 39 L st M = zcont ph d 292 (zstep ph (zEm ph d) 0 41 0 [50] L st M) := zEv_step rfl
theorem e292_41 (ph : Bool) (d : Nat) (L st : List zV) (M : zM) : zEv ph d 292 41 L st M = zcont ph d 292 (zstep ph (zEm ph d) 2 42 0 [1] L st M) := zEv_step rfl
theorem e292_42 (ph : Bool) (d : Nat) (L st : List zV) (M : zM) : zEv ph d 292 42 L st M = zcont ph d 292 (zstep ph (zEm ph d) 10 43 0 [] L st M) := zEv_step rfl
theorem e292_43 (ph : Bool) (d : Nat) (L st : List zV) (M : zM) : zEv ph d 292 43 L st M = zcont ph d 292 (zstep ph (zEm ph d) 4 44 0 [0] L st M) := zEv_step rfl
theorem e292_44 (ph : Bool) (d : Nat) (L st : List zV) (M : zM) : zEv ph d 292 44 L st M = zcont ph d 292 (zstep ph (zEm ph d) 60 47 0 [30, 13] L st M) := zEv_step rfl
theorem e292_47 (ph : Bool) (d : Nat) (L st : List zV) (M : zM) : zEv ph d 292 47 L st M = zcont ph d 292 (zstep ph (zEm ph d) 0 48 0 [0] L st M) := zEv_step rfl
theorem e292_48 (ph : Bool) (d : Nat) (L st : List zV) (M : zM) : zEv ph d 292 48 L st M = zcont ph d 292 (zstep ph (zEm ph d) 0 49 0 [0] L st M) := zEv_step rfl
theorem e292_49 (ph : Bool) (d : Nat) (L st : List zV) (M : zM) : zEv ph d 292 49 L st M = zcont ph d 292 (zstep ph (zEm ph d) 70 52 286 [5, 1, 30] L st M) := zEv_step rfl
theorem e292_52 (ph : Bool) (d : Nat) (L st : List zV) (M : zM) : zEv ph d 292 52 L st M = zcont ph d 292 (zstep ph (zEm ph d) 65 55 0 [30, 49] L st M) := zEv_step rfl
theorem e292_55 (ph : Bool) (d : Nat) (L st : List zV) (M : zM) : zEv ph d 292 55 L st M = zcont ph d 292 (zstep ph (zEm ph d) 0 56 0 [1] L st M) := zEv_step rfl
theorem e292_56 (ph : Bool) (d : Nat) (L st : List zV) (M : zM) : zEv ph d 292 56 L st M = zcont ph d 292 (zstep ph (zEm ph d) 80 57 0 [0, 1] L st M) := zEv_step rfl
theorem m293 (ph : Bool) (d : Nat) (a x0 p0 y0 : Int) (M : zM) : zEm ph (d + 1) 293 [(30, a, x0), (0, p0, y0)] M = zEv ph d 293 0 [(30, a, x0), (0, p0, y0), (3, 0, 0)] [] M := rfl
theorem e293_0 (ph : Bool) (d : Nat) (L st : List zV) (M : zM) : zEv ph d 293 0 L st M = zcont ph d 293 (zstep ph (zEm ph d) 4 1 0 [0] L st M) := zEv_step rfl
theorem e293_1 (ph : Bool) (d : Nat) (L st : List zV) (M : zM) : zEv ph d 293 1 L st M = zcont ph d 293 (zstep ph (zEm ph d) 0 3 0 [60] L st M) := zEv_step rfl
theorem e293_3 (ph : Bool) (d : Nat) (L st : List zV) (M : zM) : zEv ph d 293 3 L st M = zcont ph d 293 (zstep ph (zEm ph d) 70 6 180 [2, 1, 30] L st M) := zEv_step rfl
theorem e293_6 (ph : Bool) (d : Nat) (L st : List zV) (M : zM) : zEv ph d 293 6 L st M = zcont ph d 293 (zstep ph (zEm ph d) 41 9 33 [] L st M) := zEv_step rfl
theorem e293_9 (ph : Bool) (d : Nat) (L st : List zV) (M : zM) : zEv ph d 293 9 L st M = zcont ph d 293 (zstep ph (zEm ph d) 4 10 0 [0] L st M) := zEv_step rfl
theorem e293_10 (ph : Bool) (d : Nat) (L st : List zV) (M : zM) : zEv ph d 293 10 L st M = zcont ph d 293 (zstep ph (zEm ph d) 0 12 0 [61] L st M) := zEv_step rfl
theorem e293_12 (ph : Bool) (d : Nat) (L st : List zV) (M : zM) : zEv ph d 293 12 L st M = zcont ph d 293 (zstep ph (zEm ph d) 70 15 180 [2, 1, 30] L st M) := zEv_step rfl
theorem e293_15 (ph : Bool) (d : Nat) (L st : List zV) (M : zM) : zEv ph d 293 15 L st M = zcont ph d 293 (zstep ph (zEm ph d) 41 18 33 [] L st M) := zEv_step rfl
theorem e293_18 (ph : Bool) (d : Nat) (L st : List zV) (M : zM) : zEv ph d 293 18 L st M = zcont ph d 293 (zstep ph (zEm ph d) 4 19 0 [0] L st M) := zEv_step rfl
theorem e293_19 (ph : Bool) (d : Nat) (L st : List zV) (M : zM) : zEv ph d 293 19 L st M = zcont ph d 293 (zstep ph (zEm ph d) 0 21 0 [62] L st M) := zEv_step rfl
theorem e293_21 (ph : Bool) (d : Nat) (L st : List zV) (M : zM) : zEv ph d 293 21 L st M = zcont ph d 293 (zstep ph (zEm ph d) 70 24 180 [2, 1, 30] L st M) := zEv_step rfl
theorem e293_24 (ph : Bool) (d : Nat) (L st : List zV) (M : zM) : zEv ph d 293 24 L st M = zcont ph d 293 (zstep ph (zEm ph d) 41 27 33 [] L st M) := zEv_step rfl
theorem e293_27 (ph : Bool) (d : Nat) (L st : List zV) (M : zM) : zEv ph d 293 27 L st M = zcont ph d 293 (zstep ph (zEm ph d) 4 28 0 [0] L st M) := zEv_step rfl
theorem e293_28 (ph : Bool) (d : Nat) (L st : List zV) (M : zM) : zEv ph d 293 28 L st M = zcont ph d 293 (zstep ph (zEm ph d) 0 29 0 [1] L st M) := zEv_step rfl
theorem e293_29 (ph : Bool) (d : Nat) (L st : List zV) (M : zM) : zEv ph d 293 29 L st M = zcont ph d 293 (zstep ph (zEm ph d) 70 32 182 [2, 1, 30] L st M) := zEv_step rfl
theorem e293_32 (ph : Bool) (d : Nat) (L st : List zV) (M : zM) : zEv ph d 293 32 L st M = zcont ph d 293 (zstep ph (zEm ph d) 80 33 0 [0, 1] L st M) := zEv_step rfl
theorem e293_33 (ph : Bool) (d : Nat) (L st : List zV) (M : zM) : zEv ph d 293 33 L st M = zcont ph d 293 (zstep ph (zEm ph d) 4 34 0 [0] L st M) := zEv_step rfl
theorem e293_34 (ph : Bool) (d : Nat) (L st : List zV) (M : zM) : zEv ph d 293 34 L st M = zcont ph d 293 (zstep ph (zEm ph d) 60 37 0 [30, 9] L st M) := zEv_step rfl
theorem e293_37 (ph : Bool) (d : Nat) (L st : List zV) (M : zM) : zEv ph d 293 37 L st M = zcont ph d 293 (zstep ph (zEm ph d) 5 38 0 [2] L st M) := zEv_step rfl
theorem e293_38 (ph : Bool) (d : Nat) (L st : List zV) (M : zM) : zEv ph d 293 38 L st M = zcont ph d 293 (zstep ph (zEm ph d) 4 39 0 [0] L st M) := zEv_step rfl
theorem e293_39 (ph : Bool) (d : Nat) (L st : List zV) (M : zM) : zEv ph d 293 39 L st M = zcont ph d 293 (zstep ph (zEm ph d) 70 42 176 [1, 0, 30] L st M) := zEv_step rfl
theorem e293_42 (ph : Bool) (d : Nat) (L st : List zV) (M : zM) : zEv ph d 293 42 L st M = zcont ph d 293 (zstep ph (zEm ph d) 4 43 0 [0] L st M) := zEv_step rfl
theorem e293_43 (ph : Bool) (d : Nat) (L st : List zV) (M : zM) : zEv ph d 293 43 L st M = zcont ph d 293 (zstep ph (zEm ph d) 0 44 0 [0] L st M) := zEv_step rfl
theorem e293_44 (ph : Bool) (d : Nat) (L st : List zV) (M : zM) : zEv ph d 293 44 L st M = zcont ph d 293 (zstep ph (zEm ph d) 0 47 0 [999] L st M) := zEv_step rfl
theorem e293_47 (ph : Bool) (d : Nat) (L st : List zV) (M : zM) : zEv ph d 293 47 L st M = zcont ph d 293 (zstep ph (zEm ph d) 70 50 183 [3, 1, 30] L st M) := zEv_step rfl
theorem e293_50 (ph : Bool) (d : Nat) (L st : List zV) (M : zM) : zEv ph d 293 50 L st M = zcont ph d 293 (zstep ph (zEm ph d) 41 53 55 [] L st M) := zEv_step rfl
theorem e293_53 (ph : Bool) (d : Nat) (L st : List zV) (M : zM) : zEv ph d 293 53 L st M = zcont ph d 293 (zstep ph (zEm ph d) 0 54 0 [0] L st M) := zEv_step rfl
theorem e293_54 (ph : Bool) (d : Nat) (L st : List zV) (M : zM) : zEv ph d 293 54 L st M = zcont ph d 293 (zstep ph (zEm ph d) 80 55 0 [0, 1] L st M) := zEv_step rfl
theorem e293_55 (ph : Bool) (d : Nat) (L st : List zV) (M : zM) : zEv ph d 293 55 L st M = zcont ph d 293 (zstep ph (zEm ph d) 4 56 0 [0] L st M) := zEv_step rfl
theorem e293_56 (ph : Bool) (d : Nat) (L st : List zV) (M : zM) : zEv ph d 293 56 L st M = zcont ph d 293 (zstep ph (zEm ph d) 4 57 0 [0] L st M) := zEv_step rfl
theorem e293_57 (ph : Bool) (d : Nat) (L st : List zV) (M : zM) : zEv ph d 293 57 L st M = zcont ph d 293 (zstep ph (zEm ph d) 0 59 0 [50] L st M) := zEv_step rfl
theorem e293_59 (ph : Bool) (d : Nat) (L st : List zV) (M : zM) : zEv ph d 293 59 L st M = zcont ph d 293 (zstep ph (zEm ph d) 2 60 0 [1] L st M) := zEv_step rfl
theorem e293_60 (ph : Bool) (d : Nat) (L st : List zV) (M : zM) : zEv ph d 293 60 L st M = zcont ph d 293 (zstep ph (zEm ph d) 10 61 0 [] L st M) := zEv_step rfl
theorem e293_61 (ph : Bool) (d : Nat) (L st : List zV) (M : zM) : zEv ph d 293 61 L st M = zcont ph d 293 (zstep ph (zEm ph d) 0 62 0 [0] L st M) := zEv_step rfl
theorem e293_62 (ph : Bool) (d : Nat) (L st : List zV) (M : zM) : zEv ph d 293 62 L st M = zcont ph d 293 (zstep ph (zEm ph d) 4 63 0 [0] L st M) := zEv_step rfl
theorem e293_63 (ph : Bool) (d : Nat) (L st : List zV) (M : zM) : zEv ph d 293 63 L st M = zcont ph d 293 (zstep ph (zEm ph d) 60 66 0 [30, 13] L st M) := zEv_step rfl
theorem e293_66 (ph : Bool) (d : Nat) (L st : List zV) (M : zM) : zEv ph d 293 66 L st M = zcont ph d 293 (zstep ph (zEm ph d) 2 67 0 [2] L st M) := zEv_step rfl
theorem e293_67 (ph : Bool) (d : Nat) (L st : List zV) (M : zM) : zEv ph d 293 67 L st M = zcont ph d 293 (zstep ph (zEm ph d) 70 70 286 [5, 1, 30] L st M) := zEv_step rfl
theorem e293_70 (ph : Bool) (d : Nat) (L st : List zV) (M : zM) : zEv ph d 293 70 L st M = zcont ph d 293 (zstep ph (zEm ph d) 65 73 0 [30, 49] L st M) := zEv_step rfl
theorem e293_73 (ph : Bool) (d : Nat) (L st : List zV) (M : zM) : zEv ph d 293 73 L st M = zcont ph d 293 (zstep ph (zEm ph d) 0 74 0 [1] L st M) := zEv_step rfl
theorem e293_74 (ph : Bool) (d : Nat) (L st : List zV) (M : zM) : zEv ph d 293 74 L st M = zcont ph d 293 (zstep ph (zEm ph d) 80 75 0 [0, 1] L st M) := zEv_step rfl
theorem m286 (ph : Bool) (d : Nat) (a x0 p0 y0 p1 y1 p2 y2 p3 y3 : Int) (M : zM) : zEm ph (d + 1) 286 [(30, a, x0), (0, p0, y0), (0, p1, y1), (0, p2, y2), (0, p3, y3)] M = zEv ph d 286 0 [(30, a, x0), (0, p0, y0), (0, p1, y1), (0, p2, y2), (0, p3, y3), (3, 0, 0)] [] M := rfl
theorem e286_0 (ph : Bool) (d : Nat) (L st : List zV) (M : zM) : zEv ph d 286 0 L st M = zcont ph d 286 (zstep ph (zEm ph d) 0 1 0 [4] L st M) := zEv_step rfl
theorem e286_1 (ph : Bool) (d : Nat) (L st : List zV) (M : zM) : zEv ph d 286 1 L st M = zcont ph d 286 (zstep ph (zEm ph d) 4 2 0 [0] L st M) := zEv_step rfl
theorem e286_2 (ph : Bool) (d : Nat) (L st : List zV) (M : zM) : zEv ph d 286 2 L st M = zcont ph d 286 (zstep ph (zEm ph d) 60 5 0 [30, 46] L st M) := zEv_step rfl
theorem e286_5 (ph : Bool) (d : Nat) (L st : List zV) (M : zM) : zEv ph d 286 5 L st M = zcont ph d 286 (zstep ph (zEm ph d) 12 6 0 [] L st M) := zEv_step rfl
theorem e286_6 (ph : Bool) (d : Nat) (L st : List zV) (M : zM) : zEv ph d 286 6 L st M = zcont ph d 286 (zstep ph (zEm ph d) 5 8 0 [5] L st M) := zEv_step rfl
theorem e286_8 (ph : Bool) (d : Nat) (L st : List zV) (M : zM) : zEv ph d 286 8 L st M = zcont ph d 286 (zstep ph (zEm ph d) 4 9 0 [0] L st M) := zEv_step rfl
theorem e286_9 (ph : Bool) (d : Nat) (L st : List zV) (M : zM) : zEv ph d 286 9 L st M = zcont ph d 286 (zstep ph (zEm ph d) 62 12 0 [30, 45, 21, 10, 240] L st M) := zEv_step rfl
theorem e286_12 (ph : Bool) (d : Nat) (L st : List zV) (M : zM) : zEv ph d 286 12 L st M = zcont ph d 286 (zstep ph (zEm ph d) 2 14 0 [5] L st M) := zEv_step rfl
theorem e286_14 (ph : Bool) (d : Nat) (L st : List zV) (M : zM) : zEv ph d 286 14 L st M = zcont ph d 286 (zstep ph (zEm ph d) 2 15 0 [1] L st M) := zEv_step rfl
theorem e286_15 (ph : Bool) (d : Nat) (L st : List zV) (M : zM) : zEv ph d 286 15 L st M = zcont ph d 286 (zstep ph (zEm ph d) 89 16 0 [] L st M) := zEv_step rfl
theorem e286_16 (ph : Bool) (d : Nat) (L st : List zV) (M : zM) : zEv ph d 286 16 L st M = zcont ph d 286 (zstep ph (zEm ph d) 4 17 0 [0] L st M) := zEv_step rfl
theorem e286_17 (ph : Bool) (d : Nat) (L st : List zV) (M : zM) : zEv ph d 286 17 L st M = zcont ph d 286 (zstep ph (zEm ph d) 62 20 0 [30, 45, 21, 10, 240] L st M) := zEv_step rfl
theorem e286_20 (ph : Bool) (d : Nat) (L st : List zV) (M : zM) : zEv ph d 286 20 L st M = zcont ph d 286 (zstep ph (zEm ph d) 2 22 0 [5] L st M) := zEv_step rfl
theorem e286_22 (ph : Bool) (d : Nat) (L st : List zV) (M : zM) : zEv ph d 286 22 L st M = zcont ph d 286 (zstep ph (zEm ph d) 0 23 0 [1] L st M) := zEv_step rfl
theorem e286_23 (ph : Bool) (d : Nat) (L st : List zV) (M : zM) : zEv ph d 286 23 L st M = zcont ph d 286 (zstep ph (zEm ph d) 10 24 0 [] L st M) := zEv_step rfl
theorem e286_24 (ph : Bool) (d : Nat) (L st : List zV) (M : zM) : zEv ph d 286 24 L st M = zcont ph d 286 (zstep ph (zEm ph d) 2 25 0 [2] L st M) := zEv_step rfl
theorem e286_25 (ph : Bool) (d : Nat) (L st : List zV) (M : zM) : zEv ph d 286 25 L st M = zcont ph d 286 (zstep ph (zEm ph d) 89 26 0 [] L st M) := zEv_step rfl
theorem e286_26 (ph : Bool) (d : Nat) (L st : List zV) (M : zM) : zEv ph d 286 26 L st M = zcont ph d 286 (zstep ph (zEm ph d) 4 27 0 [0] L st M) := zEv_step rfl
theorem e286_27 (ph : Bool) (d : Nat) (L st : List zV) (M : zM) : zEv ph d 286 27 L st M = zcont ph d 286 (zstep ph (zEm ph d) 62 30 0 [30, 45, 21, 10, 240] L st M) := zEv_step rfl
theorem e286_30 (ph : Bool) (d : Nat) (L st : List zV) (M : zM) : zEv ph d 286 30 L st M = zcont ph d 286 (zstep ph (zEm ph d) 2 32 0 [5] L st M) := zEv_step rfl
theorem e286_32 (ph : Bool) (d : Nat) (L st : List zV) (M : zM) : zEv ph d 286 32 L st M = zcont ph d 286 (zstep ph (zEm ph d) 0 33 0 [2] L st M) := zEv_step rfl
theorem e286_33 (ph : Bool) (d : Nat) (L st : List zV) (M : zM) : zEv ph d 286 33 L st M = zcont ph d 286 (zstep ph (zEm ph d) 10 34 0 [] L st M) := zEv_step rfl
theorem e286_34 (ph : Bool) (d : Nat) (L st : List zV) (M : zM) : zEv ph d 286 34 L st M = zcont ph d 286 (zstep ph (zEm ph d) 2 35 0 [3] L st M) := zEv_step rfl
theorem e286_35 (ph : Bool) (d : Nat) (L st : List zV) (M : zM) : zEv ph d 286 35 L st M = zcont ph d 286 (zstep ph (zEm ph d) 89 36 0 [] L st M) := zEv_step rfl
theorem e286_36 (ph : Bool) (d : Nat) (L st : List zV) (M : zM) : zEv ph d 286 36 L st M = zcont ph d 286 (zstep ph (zEm ph d) 4 37 0 [0] L st M) := zEv_step rfl
theorem e286_37 (ph : Bool) (d : Nat) (L st : List zV) (M : zM) : zEv ph d 286 37 L st M = zcont ph d 286 (zstep ph (zEm ph d) 62 40 0 [30, 45, 21, 10, 240] L st M) := zEv_step rfl
theorem e286_40 (ph : Bool) (d : Nat) (L st : List zV) (M : zM) : zEv ph d 286 40 L st M = zcont ph d 286 (zstep ph (zEm ph d) 2 42 0 [5] L st M) := zEv_step rfl
theorem e286_42 (ph : Bool) (d : Nat) (L st : List zV) (M : zM) : zEv ph d 286 42 L st M = zcont ph d 286 (zstep ph (zEm ph d) 0 43 0 [3] L st M) := zEv_step rfl
theorem e286_43 (ph : Bool) (d : Nat) (L st : List zV) (M : zM) : zEv ph d 286 43 L st M = zcont ph d 286 (zstep ph (zEm ph d) 10 44 0 [] L st M) := zEv_step rfl
theorem e286_44 (ph : Bool) (d : Nat) (L st : List zV) (M : zM) : zEv ph d 286 44 L st M = zcont ph d 286 (zstep ph (zEm ph d) 2 46 0 [4] L st M) := zEv_step rfl
theorem e286_46 (ph : Bool) (d : Nat) (L st : List zV) (M : zM) : zEv ph d 286 46 L st M = zcont ph d 286 (zstep ph (zEm ph d) 89 47 0 [] L st M) := zEv_step rfl
theorem e286_47 (ph : Bool) (d : Nat) (L st : List zV) (M : zM) : zEv ph d 286 47 L st M = zcont ph d 286 (zstep ph (zEm ph d) 4 48 0 [0] L st M) := zEv_step rfl
theorem e286_48 (ph : Bool) (d : Nat) (L st : List zV) (M : zM) : zEv ph d 286 48 L st M = zcont ph d 286 (zstep ph (zEm ph d) 36 49 0 [] L st M) := zEv_step rfl
theorem e286_49 (ph : Bool) (d : Nat) (L st : List zV) (M : zM) : zEv ph d 286 49 L st M = zcont ph d 286 (zstep ph (zEm ph d) 60 52 0 [30, 46] L st M) := zEv_step rfl
theorem e286_52 (ph : Bool) (d : Nat) (L st : List zV) (M : zM) : zEv ph d 286 52 L st M = zcont ph d 286 (zstep ph (zEm ph d) 0 53 0 [1] L st M) := zEv_step rfl
theorem e286_53 (ph : Bool) (d : Nat) (L st : List zV) (M : zM) : zEv ph d 286 53 L st M = zcont ph d 286 (zstep ph (zEm ph d) 10 54 0 [] L st M) := zEv_step rfl
theorem e286_54 (ph : Bool) (d : Nat) (L st : List zV) (M : zM) : zEv ph d 286 54 L st M = zcont ph d 286 (zstep ph (zEm ph d) 65 57 0 [30, 46] L st M) := zEv_step rfl
theorem e286_57 (ph : Bool) (d : Nat) (L st : List zV) (M : zM) : zEv ph d 286 57 L st M = zcont ph d 286 (zstep ph (zEm ph d) 4 58 0 [0] L st M) := zEv_step rfl
theorem e286_58 (ph : Bool) (d : Nat) (L st : List zV) (M : zM) : zEv ph d 286 58 L st M = zcont ph d 286 (zstep ph (zEm ph d) 60 61 0 [30, 46] L st M) := zEv_step rfl
theorem e286_61 (ph : Bool) (d : Nat) (L st : List zV) (M : zM) : zEv ph d 286 61 L st M = zcont ph d 286 (zstep ph (zEm ph d) 0 62 0 [1] L st M) := zEv_step rfl
theorem e286_62 (ph : Bool) (d : Nat) (L st : List zV) (M : zM) : zEv ph d 286 62 L st M = zcont ph d 286 (zstep ph (zEm ph d) 11 63 0 [] L st M) := zEv_step rfl
theorem e286_63 (ph : Bool) (d : Nat) (L st : List zV) (M : zM) : zEv ph d 286 63 L st M = zcont ph d 286 (zstep ph (zEm ph d) 80 64 0 [] L st M) := zEv_step rfl
def tR (K U Z R : Int → Int) : Nat → Int → Int → Prop
  | 0, _, _ => False
  | n + 1, f, t => (0 ≤ f ∧ t ≤ 40) ∧ ((t = f + 1 ∧ leafR (K f) (U f) (Z f) (R (4 * f)) (R (4 * f + 1)) (R (4 * f + 2)) (R (4 * f + 3))) ∨ (f < t - 1 ∧ K (t - 1) = 2 ∧ R (4 * (t - 1)) = 1 ∧ R (4 * (t - 1) + 1) = t - 2 ∧ tR K U Z R n f (t - 1)) ∨ ∃ m, f < m ∧ m < t - 1 ∧ ((K (t - 1) = 1 ∧ R (4 * (t - 1)) = 2) ∨ (K (t - 1) = 0 ∧ R (4 * (t - 1)) = 3)) ∧ R (4 * (t - 1) + 1) = m - 1 ∧ R (4 * (t - 1) + 2) = t - 2 ∧ tR K U Z R n f m ∧ tR K U Z R n m (t - 1))
theorem tR_mono {K U Z R : Int → Int} : ∀ (n n' : Nat) (f t : Int), n ≤ n' → tR K U Z R n f t → tR K U Z R n' f t
  | 0, n', f, t, hn, h => by cases h
  | n + 1, 0, f, t, hn, h => by omega
  | n + 1, n' + 1, f, t, hn, h => by
    obtain ⟨h1, h2⟩ := h
    refine ⟨h1, ?_⟩
    rcases h2 with h2 | ⟨p1, p2, p3, p4, p5⟩ | ⟨m, p1, p2, p3, p4, p5, p6, p7⟩
    · exact Or.inl h2
    · exact Or.inr (Or.inl ⟨p1, p2, p3, p4, tR_mono n n' _ _ (by omega) p5⟩)
    · exact Or.inr (Or.inr ⟨m, p1, p2, p3, p4, p5, tR_mono n n' _ _ (by omega) p6, tR_mono n n' _ _ (by omega) p7⟩)
theorem tR_eq {K U Z R K' U' Z' R' : Int → Int} : ∀ (n : Nat) (f t : Int), (∀ j, f ≤ j → j < t → K' j = K j ∧ U' j = U j ∧ Z' j = Z j) → (∀ y, 4 * f ≤ y → y < 4 * t → R' y = R y) → tR K U Z R n f t → tR K' U' Z' R' n f t
  | 0, f, t, hK, hR, h => by cases h
  | n + 1, f, t, hK, hR, h => by
    obtain ⟨h1, h2⟩ := h
    refine ⟨h1, ?_⟩
    rcases h2 with ⟨p1, p2⟩ | ⟨p1, p2, p3, p4, p5⟩ | ⟨m, p1, p2, p3, p4, p5, p6, p7⟩
    · refine Or.inl ⟨p1, ?_⟩
      obtain ⟨e1, e2, e3⟩ := hK f (by omega) (by omega)
      rw [e1, e2, e3, hR _ (by omega) (by omega), hR _ (by omega) (by omega), hR _ (by omega) (by omega), hR _ (by omega) (by omega)]
      exact p2
    · refine Or.inr (Or.inl ⟨p1, ?_, ?_, ?_, tR_eq n _ _ (fun j j0 j1 => hK j j0 (by omega)) (fun y y0 y1 => hR y y0 (by omega)) p5⟩)
      · rw [(hK (t - 1) (by omega) (by omega)).1]; exact p2
      · rw [hR _ (by omega) (by omega)]; exact p3
      · rw [hR _ (by omega) (by omega)]; exact p4
    · refine Or.inr (Or.inr ⟨m, p1, p2, ?_, ?_, ?_, tR_eq n _ _ (fun j j0 j1 => hK j j0 (by omega)) (fun y y0 y1 => hR y y0 (by omega)) p6, tR_eq n _ _ (fun j j0 j1 => hK j (by omega) (by omega)) (fun y y0 y1 => hR y (by omega) (by omega)) p7⟩)
      · rw [(hK (t - 1) (by omega) (by omega)).1, hR (4 * (t - 1)) (by omega) (by omega)]; exact p3
      · rw [hR _ (by omega) (by omega)]; exact p4
      · rw [hR _ (by omega) (by omega)]; exact p5
theorem tR_lt {K U Z R : Int → Int} : ∀ (n : Nat) (f t : Int), tR K U Z R n f t → f < t
  | 0, f, t, h => by cases h
  | n + 1, f, t, h => by
    obtain ⟨h1, h2⟩ := h
    rcases h2 with ⟨p1, p2⟩ | ⟨p1, p2, p3, p4, p5⟩ | ⟨m, p1, p2, p3, p4, p5, p6, p7⟩
    · omega
    · omega
    · omega
theorem tR_gR {K U Z R R2 : Int → Int} (hR : ∀ y, 0 ≤ y → y < 240 → R2 (128 + y) = R y) : ∀ (n : Nat) (f t : Int), tR K U Z R n f t → gR K U Z R2 n f t (t - 1)
  | 0, f, t, h => by cases h
  | n + 1, f, t, h => by
    have hlt := tR_lt (n + 1) f t h
    obtain ⟨h1, h2⟩ := h
    refine ⟨⟨by omega, by omega⟩, h1, ?_⟩
    have e : ∀ i, 0 ≤ i → i < 4 → R2 (128 + 4 * (t - 1) + i) = R (4 * (t - 1) + i) := fun i i0 i1 => by
      rw [Int.add_assoc]
      exact hR _ (by omega) (by omega)
    have e0 := e 0 (by omega) (by omega)
    rw [Int.add_zero, Int.add_zero] at e0
    rcases h2 with ⟨p1, p2⟩ | ⟨p1, p2, p3, p4, p5⟩ | ⟨m, p1, p2, p3, p4, p5, p6, p7⟩
    · refine Or.inl ⟨p1, ?_⟩
      have ef : t - 1 = f := by omega
      rw [e0, e 1 (by omega) (by omega), e 2 (by omega) (by omega), e 3 (by omega) (by omega), ef]
      exact p2
    · refine Or.inr (Or.inl ⟨p1, p2, by rw [e0]; exact p3, ?_⟩)
      rw [e 1 (by omega) (by omega), p4]
      have := tR_gR hR n f (t - 1) p5
      rwa [show t - 1 - 1 = t - 2 by omega] at this
    · refine Or.inr (Or.inr ⟨m, p1, p2, by rw [e0]; exact p3, ?_, ?_⟩)
      · rw [e 1 (by omega) (by omega), p4]
        exact tR_gR hR n f m p6
      · rw [e 2 (by omega) (by omega), p5]
        have := tR_gR hR n m (t - 1) p7
        rwa [show t - 1 - 1 = t - 2 by omega] at this
def snA (A : zM) (s w n g : Int) : zM := zup (zup (zup (zup A 21 s w) 22 s n) 23 s g) 20 4 (s + 1)
def snB (B : zM) (s w a b r : Int) : zM := zup (zup (zup (zup (zup B 218 (4 * s) w) 218 (4 * s + 1) a) 218 (4 * s + 2) b) 218 (4 * s + 3) r) 197 46 (s + 1)
theorem snA_f {A : zM} {s w n g x y : Int} (h1 : ¬ (x = 20 ∧ y = 4)) (h2 : ¬ (21 ≤ x ∧ x ≤ 23 ∧ y = s)) : snA A s w n g x y = A x y := by
  unfold snA
  rw [zup_f (by omega), zup_f (by omega), zup_f (by omega), zup_f (by omega)]
theorem snA_r {A : zM} {s w n g : Int} : snA A s w n g 20 4 = s + 1 ∧ snA A s w n g 21 s = w ∧ snA A s w n g 22 s = n ∧ snA A s w n g 23 s = g := by
  unfold snA
  refine ⟨?_, ?_, ?_, ?_⟩
  · rw [zup_e (by omega)]
  · rw [zup_f (by omega), zup_f (by omega), zup_f (by omega), zup_e (by omega)]
  · rw [zup_f (by omega), zup_f (by omega), zup_e (by omega)]
  · rw [zup_f (by omega), zup_e (by omega)]
theorem snB_f {B : zM} {s w a b r x y : Int} (h1 : ¬ (x = 197 ∧ y = 46)) (h2 : ¬ (x = 218 ∧ 4 * s ≤ y ∧ y < 4 * s + 4)) : snB B s w a b r x y = B x y := by
  unfold snB
  rw [zup_f (by omega), zup_f (by omega), zup_f (by omega), zup_f (by omega), zup_f (by omega)]
theorem snB_r {B : zM} {s w a b r : Int} : snB B s w a b r 197 46 = s + 1 ∧ snB B s w a b r 218 (4 * s) = w ∧ snB B s w a b r 218 (4 * s + 1) = a ∧ snB B s w a b r 218 (4 * s + 2) = b ∧ snB B s w a b r 218 (4 * s + 3) = r := by
  unfold snB
  refine ⟨?_, ?_, ?_, ?_, ?_⟩
  · rw [zup_e (by omega)]
  · rw [zup_f (by omega), zup_f (by omega), zup_f (by omega), zup_f (by omega), zup_e (by omega)]
  · rw [zup_f (by omega), zup_f (by omega), zup_f (by omega), zup_e (by omega)]
  · rw [zup_f (by omega), zup_f (by omega), zup_e (by omega)]
  · rw [zup_f (by omega), zup_e (by omega)]
theorem s_sadd (D : Nat) (hD : 1 ≤ D) (x0 w y n y1 g y2 s : Int) (A : zM) (hs : A 20 4 = s) (s0 : 0 ≤ s) (s1 : s < 40) : zEm true D 106 [(25, 20, x0), (0, w, y), (0, n, y1), (0, g, y2)] A = some ((0, 1, 0), snA A s w n g) := by
  obtain ⟨d, rfl⟩ : ∃ d, D = d + 1 := ⟨D - 1, by omega⟩
  unfold snA
  simp (disch := first | assumption | exact zrm0 | exact zrm1 _ | exact zrm2 _ _ | exact zrm3 _ _ _ | exact zrm4 _ _ _ _ | omega) only [m106, ↓k_dp, ↓k_dn, k_dp, k_dn, k_dT, k_dF, k_ip, k_in, if_true, if_false, ne_eq, not_true_eq_false, not_false_eq_true, Int.reduceAdd, zup_a, zup_e, zup_j, z32_id, k_al0, k_gI, k_ic, k_iclt, k_rz, k_gR, k_il1, k_ist, k_il2, k_il3, k_dup, k_iadd, k_pI, e106_0, e106_1, e106_4, e106_6, e106_9, e106_10, e106_11, e106_12, e106_15, e106_16, e106_19, e106_20, e106_21, e106_22, e106_25, e106_26, e106_29, e106_30, e106_31, e106_32, e106_35, e106_36, e106_39, e106_40, e106_41, e106_42, e106_43, e106_46, e106_47, e106_48, e106_51, e106_52, hs]
theorem r_says (E : Nat) (hE : 1 ≤ E) (y0 w y a y1 b y2 r y3 s : Int) (B : zM) (hs : B 197 46 = s) (s0 : 0 ≤ s) (s1 : s < 60) : zEm true E 286 [(30, 197, y0), (0, w, y), (0, a, y1), (0, b, y2), (0, r, y3)] B = some ((0, s, 0), snB B s w a b r) := by
  obtain ⟨e, rfl⟩ : ∃ e, E = e + 1 := ⟨E - 1, by omega⟩
  unfold snB
  have h1 : s + 1 - 1 = s := by omega
  simp (disch := first | assumption | exact zrm0 | exact zrm1 _ | exact zrm2 _ _ | exact zrm3 _ _ _ | exact zrm4 _ _ _ _ | omega) only [m286, ↓k_dp, ↓k_dn, k_dp, k_dn, k_dT, k_dF, k_ip, k_in, if_true, if_false, ne_eq, not_true_eq_false, not_false_eq_true, Int.reduceAdd, zup_a, zup_e, zup_j, z32_id, k_ic, k_al0, k_gI, k_imul, k_is5, k_gR, k_il5, k_il1, k_ist, k_iadd, k_il2, k_il3, k_il4, k_dup, k_pI, k_isub, k_ri, e286_0, e286_1, e286_2, e286_5, e286_6, e286_8, e286_9, e286_12, e286_14, e286_15, e286_16, e286_17, e286_20, e286_22, e286_23, e286_24, e286_25, e286_26, e286_27, e286_30, e286_32, e286_33, e286_34, e286_35, e286_36, e286_37, e286_40, e286_42, e286_43, e286_44, e286_46, e286_47, e286_48, e286_49, e286_52, e286_53, e286_54, e286_57, e286_58, e286_61, e286_62, e286_63, hs, h1]
def frS (A A' : zM) : Prop := ∀ x y, ¬ (x = 2 ∧ 3 ≤ y ∧ y ≤ 11) → ¬ (x = 20 ∧ (y = 4 ∨ y = 5)) → ¬ (21 ≤ x ∧ x ≤ 23) → A' x y = A x y
def frT (B B' : zM) : Prop := ∀ x y, ¬ (x = 197 ∧ (5 ≤ y ∧ y ≤ 13 ∨ 46 ≤ y ∧ y ≤ 49)) → x ≠ 218 → B' x y = B x y
theorem frS_r {A : zM} : frS A A := fun _ _ _ _ _ => rfl
theorem frT_r {A : zM} : frT A A := fun _ _ _ _ => rfl
theorem frS_t {A B C : zM} (h : frS A B) (k : frS B C) : frS A C := fun x y z1 z2 z3 => (k x y z1 z2 z3).trans (h x y z1 z2 z3)
theorem frT_t {A B C : zM} (h : frT A B) (k : frT B C) : frT A C := fun x y z1 z2 => (k x y z1 z2).trans (h x y z1 z2)
theorem frS_X {A B : zM} (k : agX A B) : frS A B := fun x y z1 z2 z3 => k x y (by omega)
theorem frT_Y {A B : zM} (k : agY A B) : frT A B := fun x y z1 z2 => k x y (by omega)
theorem frS_a {A : zM} {s w n g : Int} : frS A (snA A s w n g) := fun x y z1 z2 z3 => snA_f (by omega) (by omega)
theorem frT_b {A : zM} {s w a b r : Int} : frT A (snB A s w a b r) := fun x y z1 z2 => snB_f (by omega) (by omega)
/-- nothing of what was told before is changed -/
def pfx (s : Int) (A A' B B' : zM) : Prop := (∀ x j, 21 ≤ x → x ≤ 23 → 0 ≤ j → j < s → A' x j = A x j) ∧ ∀ y, 0 ≤ y → y < 4 * s → B' 218 y = B 218 y
theorem pfx_t {s s' : Int} {A A' A2 B B' B2 : zM} (h : pfx s A A' B B') (k : pfx s' A' A2 B' B2) (hs : s ≤ s') : pfx s A A2 B B2 := ⟨fun x j h1 h2 h3 h4 => (k.1 x j h1 h2 h3 (by omega)).trans (h.1 x j h1 h2 h3 h4), fun y h1 h2 => (k.2 y h1 (by omega)).trans (h.2 y h1 h2)⟩
theorem pfx_XY {s : Int} {A A' B B' : zM} (h : agX A A') (k : agY B B') : pfx s A A' B B' := ⟨fun x j h1 h2 h3 h4 => h x j (by omega), fun y h1 h2 => k _ _ (by omega)⟩
theorem pfx_add {s w n g w' a b r : Int} {A B : zM} : pfx s A (snA A s w n g) B (snB B s w' a b r) := ⟨fun x j h1 h2 h3 h4 => snA_f (by omega) (by omega), fun y h1 h2 => snB_f (by omega) (by omega)⟩
def lfQ (A B A' B' : zM) (s r : Int) : Prop := frS A A' ∧ frT B B' ∧ ((r = 1 ∧ tkR A' B' ∧ (A' 20 4 = s + 1 ∧ A' 20 5 = A 20 5 ∧ B' 197 46 = s + 1 ∧ B' 197 47 = B 197 47 ∧ B' 197 48 = B 197 48 ∧ B' 197 49 = s) ∧ leafR (A' 21 s) (A' 22 s) (A' 23 s) (B' 218 (4 * s)) (B' 218 (4 * s + 1)) (B' 218 (4 * s + 2)) (B' 218 (4 * s + 3)) ∧ pfx s A A' B B') ∨ (r = 0 ∧ flR A' B'))
/-- 'of', 'for', 'against' -/
theorem p_of {A B : zM} (h : tkR A B) {s kd w a b l many : Int} (hs : A 20 4 = s) (hs2 : B 197 46 = s) (s0 : 0 ≤ s) (s1 : s < 40) (hw : (w = 26 ∧ kd = 5 ∧ a = 31 ∧ b = 0 ∧ many = B 199 0) ∨ (w = kd + 21 ∧ 6 ≤ kd ∧ kd ≤ 7 ∧ a = 33 ∧ b = 15 ∧ many = B 199 2)) (m0 : 0 ≤ many) (m5 : many ≤ 5) (hl : l = 5) (hn : ∀ k, 0 ≤ k → k < many → nmR (A a k) (B 204 (b + k))) (D E : Nat) (hD : 8 ≤ D) (hE : 8 ≤ E) (x0 y0 : Int) : ∃ A' B' r, zEm true D 96 [(24, 1, x0), (0, kd, 0), (11, a, l), (0, many, 0)] A = some ((0, r, 0), A') ∧ zEm true E 292 [(30, 197, y0), (0, w, 0)] B = some ((0, r, 0), B') ∧ lfQ A B A' B' s r := by
  obtain ⟨d, rfl⟩ : ∃ d, D = d + 1 := ⟨D - 1, by omega⟩
  obtain ⟨e, rfl⟩ : ∃ e, E = e + 1 := ⟨E - 1, by omega⟩
  rcases p_named h d e (by omega) (by omega) a l b many y0 0 0 0 (by omega) m0 (by omega) (by omega) (by omega) hn with ⟨v, A1, B1, hv, -, c1, c2, c3, c4, c5, c6, c7⟩ | ⟨A1, B1, c1, c2, c3, c4, c5⟩
  · have g1 : A1 20 4 = s := by rw [c5 _ _ (by omega)]; exact hs
    have g2 : B1 197 46 = s := by rw [c6 _ _ (by omega)]; exact hs2
    have ha := s_sadd d (by omega) 0 kd 0 v 0 0 0 s A1 g1 s0 s1
    have hb := r_says e (by omega) y0 (50 + w) 0 v 0 0 0 0 0 s B1 g2 s0 (by omega)
    obtain ⟨B2, hB2⟩ : ∃ B2, B2 = zup (snB B1 s (50 + w) v 0 0) 197 49 s := ⟨_, rfl⟩
    have fB2 : ∀ x y, ¬ (x = 197 ∧ y = 49) → B2 x y = snB B1 s (50 + w) v 0 0 x y := fun x y z => by rw [hB2, zup_f z]
    obtain ⟨a1, a2, a3, a4⟩ := snA_r (A := A1) (s := s) (w := kd) (n := v) (g := 0)
    obtain ⟨b1, b2, b3, b4, b5⟩ := snB_r (B := B1) (s := s) (w := 50 + w) (a := v) (b := 0) (r := 0)
    refine ⟨snA A1 s kd v 0, B2, 1, ?_, ?_, frS_t (frS_X c5) frS_a, fun x y z1 z2 => ?_, Or.inl ⟨rfl, ?_, ⟨a1, ?_, ?_, ?_, ?_, ?_⟩, ?_, fun x j h1 h2 h3 h4 => ?_, fun y h1 h2 => ?_⟩⟩
    · simp (disch := first | assumption | exact zrm0 | exact zrm1 _ | exact zrm2 _ _ | exact zrm3 _ _ _ | exact zrm4 _ _ _ _ | omega) only [m96, ↓k_dp, ↓k_dn, k_dp, k_dn, k_dT, k_dF, k_ip, k_in, if_true, if_false, ne_eq, not_true_eq_false, not_false_eq_true, Int.reduceAdd, zup_a, zup_e, zup_j, z32_id, k_al0, k_gR, k_al2, k_il3, k_v3r, k_is4, k_il4, k_ic, k_icne, k_rz, k_v1, k_il1, k_v4r, zb0_some, zb1_some, e96_0, e96_1, e96_4, e96_5, e96_6, e96_9, e96_11, e96_13, e96_14, e96_17, e96_18, e96_19, e96_20, e96_23, e96_26, e96_27, e96_30, e96_31, e96_33, e96_34, e96_37, c1, c2, ha]
    · rw [hB2]
      rcases hw with ⟨rfl, rfl, rfl, rfl, hm⟩ | ⟨rfl, k0, k1, rfl, rfl, hm⟩
      · rw [show (50 : Int) + 26 = 76 from rfl] at hb
        simp (disch := first | assumption | exact zrm0 | exact zrm1 _ | exact zrm2 _ _ | exact zrm3 _ _ _ | exact zrm4 _ _ _ _ | omega) only [m292, ↓k_dp, ↓k_dn, k_dp, k_dn, k_dT, k_dF, k_ip, k_in, if_true, if_false, ne_eq, not_true_eq_false, not_false_eq_true, Int.reduceAdd, zup_a, zup_e, zup_j, z32_id, k_al0, k_il1, k_ic, k_icne, k_goto, k_gR, k_ild, k_ildS, k_ildW, k_v3r, k_ifne, k_rz, k_iadd, k_gI, k_v5r, k_pI, zb0_some, zb1_some, e292_0, e292_1, e292_2, e292_4, e292_7, e292_8, e292_11, e292_13, e292_14, e292_17, e292_18, e292_20, e292_23, e292_24, e292_27, e292_28, e292_29, e292_32, e292_35, e292_36, e292_37, e292_38, e292_39, e292_41, e292_42, e292_43, e292_44, e292_47, e292_48, e292_49, e292_52, e292_55, e292_56, hm.symm, c3, c4, hb]
      · simp (disch := first | assumption | exact zrm0 | exact zrm1 _ | exact zrm2 _ _ | exact zrm3 _ _ _ | exact zrm4 _ _ _ _ | omega) only [m292, ↓k_dp, ↓k_dn, k_dp, k_dn, k_dT, k_dF, k_ip, k_in, if_true, if_false, ne_eq, not_true_eq_false, not_false_eq_true, Int.reduceAdd, zup_a, zup_e, zup_j, z32_id, k_al0, k_il1, k_ic, k_icne, k_goto, k_gR, k_ild, k_ildS, k_ildW, k_v3r, k_ifne, k_rz, k_iadd, k_gI, k_v5r, k_pI, zb0_some, zb1_some, e292_0, e292_1, e292_2, e292_4, e292_7, e292_8, e292_11, e292_13, e292_14, e292_17, e292_18, e292_20, e292_23, e292_24, e292_27, e292_28, e292_29, e292_32, e292_35, e292_36, e292_37, e292_38, e292_39, e292_41, e292_42, e292_43, e292_44, e292_47, e292_48, e292_49, e292_52, e292_55, e292_56, hm.symm, c3, c4, hb]
    · rw [fB2 x y (by omega), snB_f (by omega) (by omega), c6 x y (by omega)]
    · exact tkR_fr c7 (fun x y z => snA_f (by omega) (by omega)) (fun x y z => by rw [fB2 x y (by omega), snB_f (by omega) (by omega)])
    · rw [snA_f (by omega) (by omega), c5 _ _ (by omega)]
    · rw [fB2 _ _ (by omega)]; exact b1
    · rw [fB2 _ _ (by omega), snB_f (by omega) (by omega), c6 _ _ (by omega)]
    · rw [fB2 _ _ (by omega), snB_f (by omega) (by omega), c6 _ _ (by omega)]
    · rw [hB2, zup_e (by omega)]
    · rw [a2, a3, a4, fB2 _ _ (by omega), fB2 _ _ (by omega), fB2 _ _ (by omega), fB2 _ _ (by omega), b2, b3, b4, b5]
      unfold leafR
      omega
    · rw [snA_f (by omega) (by omega), c5 _ _ (by omega)]
    · rw [fB2 _ _ (by omega), snB_f (by omega) (by omega), c6 _ _ (by omega)]
  · refine ⟨A1, B1, 0, ?_, ?_, frS_X c3, frT_Y c4, Or.inr ⟨rfl, c5⟩⟩
    · simp (disch := first | assumption | exact zrm0 | exact zrm1 _ | exact zrm2 _ _ | exact zrm3 _ _ _ | exact zrm4 _ _ _ _ | omega) only [m96, ↓k_dp, ↓k_dn, k_dp, k_dn, k_dT, k_dF, k_ip, k_in, if_true, if_false, ne_eq, not_true_eq_false, not_false_eq_true, Int.reduceAdd, zup_a, zup_e, zup_j, z32_id, k_al0, k_gR, k_al2, k_il3, k_v3r, k_is4, k_il4, k_ic, k_icne, k_rz, k_v1, k_il1, k_v4r, zb0_some, zb1_some, e96_0, e96_1, e96_4, e96_5, e96_6, e96_9, e96_11, e96_13, e96_14, e96_17, e96_18, e96_19, e96_20, e96_23, e96_26, e96_27, e96_30, e96_31, e96_33, e96_34, e96_37, c1]
    · rcases hw with ⟨rfl, rfl, rfl, rfl, hm⟩ | ⟨rfl, k0, k1, rfl, rfl, hm⟩
      · simp (disch := first | assumption | exact zrm0 | exact zrm1 _ | exact zrm2 _ _ | exact zrm3 _ _ _ | exact zrm4 _ _ _ _ | omega) only [m292, ↓k_dp, ↓k_dn, k_dp, k_dn, k_dT, k_dF, k_ip, k_in, if_true, if_false, ne_eq, not_true_eq_false, not_false_eq_true, Int.reduceAdd, zup_a, zup_e, zup_j, z32_id, k_al0, k_il1, k_ic, k_icne, k_goto, k_gR, k_ild, k_ildS, k_ildW, k_v3r, k_ifne, k_rz, k_iadd, k_gI, k_v5r, k_pI, zb0_some, zb1_some, e292_0, e292_1, e292_2, e292_4, e292_7, e292_8, e292_11, e292_13, e292_14, e292_17, e292_18, e292_20, e292_23, e292_24, e292_27, e292_28, e292_29, e292_32, e292_35, e292_36, e292_37, e292_38, e292_39, e292_41, e292_42, e292_43, e292_44, e292_47, e292_48, e292_49, e292_52, e292_55, e292_56, hm.symm, c2]
      · simp (disch := first | assumption | exact zrm0 | exact zrm1 _ | exact zrm2 _ _ | exact zrm3 _ _ _ | exact zrm4 _ _ _ _ | omega) only [m292, ↓k_dp, ↓k_dn, k_dp, k_dn, k_dT, k_dF, k_ip, k_in, if_true, if_false, ne_eq, not_true_eq_false, not_false_eq_true, Int.reduceAdd, zup_a, zup_e, zup_j, z32_id, k_al0, k_il1, k_ic, k_icne, k_goto, k_gR, k_ild, k_ildS, k_ildW, k_v3r, k_ifne, k_rz, k_iadd, k_gI, k_v5r, k_pI, zb0_some, zb1_some, e292_0, e292_1, e292_2, e292_4, e292_7, e292_8, e292_11, e292_13, e292_14, e292_17, e292_18, e292_20, e292_23, e292_24, e292_27, e292_28, e292_29, e292_32, e292_35, e292_36, e292_37, e292_38, e292_39, e292_41, e292_42, e292_43, e292_44, e292_47, e292_48, e292_49, e292_52, e292_55, e292_56, hm.symm, c2]
/-- 'irons', 'coin', 'number' -/
theorem p_cmp {A B : zM} (h : tkR A B) {s kd : Int} (hs : A 20 4 = s) (hs2 : B 197 46 = s) (s0 : 0 ≤ s) (s1 : s < 40) (hw : 8 ≤ kd ∧ kd ≤ 10) (D E : Nat) (hD : 8 ≤ D) (hE : 8 ≤ E) (x0 y0 : Int) : ∃ A' B' r, zEm true D 97 [(24, 1, x0), (0, kd, 0)] A = some ((0, r, 0), A') ∧ zEm true E 293 [(30, 197, y0), (0, kd + 21, 0)] B = some ((0, r, 0), B') ∧ lfQ A B A' B' s r := by
  obtain ⟨d, rfl⟩ : ∃ d, D = d + 1 := ⟨D - 1, by omega⟩
  obtain ⟨e, rfl⟩ : ∃ e, E = e + 1 := ⟨E - 1, by omega⟩
  have w0 := p_isSign h (c := 60) (by omega) (by omega) e (by omega) y0 0
  have w1 := p_isSign h (c := 61) (by omega) (by omega) e (by omega) y0 0
  have w2 := p_isSign h (c := 62) (by omega) (by omega) e (by omega) y0 0
  by_cases c : A 2 9 = 60 ∨ A 2 9 = 61 ∨ A 2 9 = 62
  · obtain ⟨g, hg⟩ : ∃ g, A 2 9 = g := ⟨_, rfl⟩
    have hB9 : B 197 9 = g := by
      have := (h.2.sg g (by omega) (by omega)).1 hg
      exact this.2
    obtain ⟨A1, B1, a1, a2, a3, a4, a5, -⟩ := p_go h.1 d e (by omega) (by omega) 0 y0
    have a4 := agX_a a4
    have a5 := agY_g a5
    obtain ⟨A2, B2, r, v, c1, c2, c3, c4, c5⟩ := p_num a3 d e (by omega) (by omega) 0 999 0 y0 0 0 0 0
    have fX : agX A A2 := agX_t a4 c3
    have fY : agY B B2 := agY_t a5 c4
    have rC : ∀ (X : zM) (v' : Int), zEv true d 97 35 [(24, 1, x0), (0, kd, 0), (0, g, 0), (3, 0, 0)] [] A = some ((0, v', 0), X) → zEm true (d + 1) 97 [(24, 1, x0), (0, kd, 0)] A = some ((0, v', 0), X) := fun X v' hX => by
      rw [← hX]
      rw [hg] at c
      rcases c with z | z | z
      · simp (disch := first | assumption | exact zrm0 | exact zrm1 _ | exact zrm2 _ _ | exact zrm3 _ _ _ | exact zrm4 _ _ _ _ | omega) only [m97, ↓k_dp, ↓k_dn, k_dp, k_dn, k_dT, k_dF, k_ip, k_in, if_true, if_false, ne_eq, not_true_eq_false, not_false_eq_true, Int.reduceAdd, zup_a, zup_e, zup_j, z32_id, k_al0, k_gR, k_gI, k_is2, k_il2, k_ic, k_iceq, k_v2r, k_rz, k_v1, k_v3r, k_is3, k_il3, k_il1, k_v4r, k_ifeq, k_goto, zb0_some, zb1_some, e97_0, e97_1, e97_4, e97_7, e97_8, e97_9, e97_11, e97_14, e97_15, e97_17, e97_20, e97_21, e97_23, e97_26, e97_27, e97_30, e97_31, e97_34, e97_36, e97_39, e97_42, e97_43, e97_46, e97_47, e97_50, e97_53, e97_54, e97_55, e97_56, e97_59, e97_60, e97_63, e97_64, e97_65, e97_66, e97_69, e97_72, e97_73, e97_76, e97_77, hg]
      · simp (disch := first | assumption | exact zrm0 | exact zrm1 _ | exact zrm2 _ _ | exact zrm3 _ _ _ | exact zrm4 _ _ _ _ | omega) only [m97, ↓k_dp, ↓k_dn, k_dp, k_dn, k_dT, k_dF, k_ip, k_in, if_true, if_false, ne_eq, not_true_eq_false, not_false_eq_true, Int.reduceAdd, zup_a, zup_e, zup_j, z32_id, k_al0, k_gR, k_gI, k_is2, k_il2, k_ic, k_iceq, k_v2r, k_rz, k_v1, k_v3r, k_is3, k_il3, k_il1, k_v4r, k_ifeq, k_goto, zb0_some, zb1_some, e97_0, e97_1, e97_4, e97_7, e97_8, e97_9, e97_11, e97_14, e97_15, e97_17, e97_20, e97_21, e97_23, e97_26, e97_27, e97_30, e97_31, e97_34, e97_36, e97_39, e97_42, e97_43, e97_46, e97_47, e97_50, e97_53, e97_54, e97_55, e97_56, e97_59, e97_60, e97_63, e97_64, e97_65, e97_66, e97_69, e97_72, e97_73, e97_76, e97_77, hg]
      · simp (disch := first | assumption | exact zrm0 | exact zrm1 _ | exact zrm2 _ _ | exact zrm3 _ _ _ | exact zrm4 _ _ _ _ | omega) only [m97, ↓k_dp, ↓k_dn, k_dp, k_dn, k_dT, k_dF, k_ip, k_in, if_true, if_false, ne_eq, not_true_eq_false, not_false_eq_true, Int.reduceAdd, zup_a, zup_e, zup_j, z32_id, k_al0, k_gR, k_gI, k_is2, k_il2, k_ic, k_iceq, k_v2r, k_rz, k_v1, k_v3r, k_is3, k_il3, k_il1, k_v4r, k_ifeq, k_goto, zb0_some, zb1_some, e97_0, e97_1, e97_4, e97_7, e97_8, e97_9, e97_11, e97_14, e97_15, e97_17, e97_20, e97_21, e97_23, e97_26, e97_27, e97_30, e97_31, e97_34, e97_36, e97_39, e97_42, e97_43, e97_46, e97_47, e97_50, e97_53, e97_54, e97_55, e97_56, e97_59, e97_60, e97_63, e97_64, e97_65, e97_66, e97_69, e97_72, e97_73, e97_76, e97_77, hg]
    have rM : ∀ (X : zM) (v' : Int), zEv true e 293 33 [(30, 197, y0), (0, kd + 21, 0), (3, 0, 0)] [] B = some ((0, v', 0), X) → zEm true (e + 1) 293 [(30, 197, y0), (0, kd + 21, 0)] B = some ((0, v', 0), X) := fun X v' hX => by
      rw [← hX]
      by_cases z0 : A 2 9 = 60
      · rw [if_pos z0] at w0
        simp (disch := first | assumption | exact zrm0 | exact zrm1 _ | exact zrm2 _ _ | exact zrm3 _ _ _ | exact zrm4 _ _ _ _ | omega) only [m293, ↓k_dp, ↓k_dn, k_dp, k_dn, k_dT, k_dF, k_ip, k_in, if_true, if_false, ne_eq, not_true_eq_false, not_false_eq_true, Int.reduceAdd, zup_a, zup_e, zup_j, z32_id, k_al0, k_ic, k_v2r, k_ifne, k_rz, k_gI, k_is2, k_v1, k_v3r, k_il1, k_iadd, k_il2, k_v5r, k_pI, zb0_some, zb1_some, e293_0, e293_1, e293_3, e293_6, e293_9, e293_10, e293_12, e293_15, e293_18, e293_19, e293_21, e293_24, e293_27, e293_28, e293_29, e293_32, e293_34, e293_37, e293_38, e293_39, e293_42, e293_43, e293_44, e293_47, e293_50, e293_53, e293_54, e293_55, e293_56, e293_57, e293_59, e293_60, e293_61, e293_62, e293_63, e293_66, e293_67, e293_70, e293_73, e293_74, w0]
      · rw [if_neg z0] at w0
        by_cases z1 : A 2 9 = 61
        · rw [if_pos z1] at w1
          simp (disch := first | assumption | exact zrm0 | exact zrm1 _ | exact zrm2 _ _ | exact zrm3 _ _ _ | exact zrm4 _ _ _ _ | omega) only [m293, ↓k_dp, ↓k_dn, k_dp, k_dn, k_dT, k_dF, k_ip, k_in, if_true, if_false, ne_eq, not_true_eq_false, not_false_eq_true, Int.reduceAdd, zup_a, zup_e, zup_j, z32_id, k_al0, k_ic, k_v2r, k_ifne, k_rz, k_gI, k_is2, k_v1, k_v3r, k_il1, k_iadd, k_il2, k_v5r, k_pI, zb0_some, zb1_some, e293_0, e293_1, e293_3, e293_6, e293_9, e293_10, e293_12, e293_15, e293_18, e293_19, e293_21, e293_24, e293_27, e293_28, e293_29, e293_32, e293_34, e293_37, e293_38, e293_39, e293_42, e293_43, e293_44, e293_47, e293_50, e293_53, e293_54, e293_55, e293_56, e293_57, e293_59, e293_60, e293_61, e293_62, e293_63, e293_66, e293_67, e293_70, e293_73, e293_74, w0, w1]
        · rw [if_neg z1] at w1
          rw [if_pos (by omega)] at w2
          simp (disch := first | assumption | exact zrm0 | exact zrm1 _ | exact zrm2 _ _ | exact zrm3 _ _ _ | exact zrm4 _ _ _ _ | omega) only [m293, ↓k_dp, ↓k_dn, k_dp, k_dn, k_dT, k_dF, k_ip, k_in, if_true, if_false, ne_eq, not_true_eq_false, not_false_eq_true, Int.reduceAdd, zup_a, zup_e, zup_j, z32_id, k_al0, k_ic, k_v2r, k_ifne, k_rz, k_gI, k_is2, k_v1, k_v3r, k_il1, k_iadd, k_il2, k_v5r, k_pI, zb0_some, zb1_some, e293_0, e293_1, e293_3, e293_6, e293_9, e293_10, e293_12, e293_15, e293_18, e293_19, e293_21, e293_24, e293_27, e293_28, e293_29, e293_32, e293_34, e293_37, e293_38, e293_39, e293_42, e293_43, e293_44, e293_47, e293_50, e293_53, e293_54, e293_55, e293_56, e293_57, e293_59, e293_60, e293_61, e293_62, e293_63, e293_66, e293_67, e293_70, e293_73, e293_74, w0, w1, w2]
    rcases c5 with ⟨rfl, d1, d2, d3, d4, -⟩ | ⟨rfl, rfl, d1⟩
    · have g1 : A2 20 4 = s := by rw [fX _ _ (by omega)]; exact hs
      have g2 : B2 197 46 = s := by rw [fY _ _ (by omega)]; exact hs2
      have ha := s_sadd d (by omega) 0 kd 0 v 0 g 0 s A2 g1 s0 s1
      have hb := r_says e (by omega) y0 (50 + (kd + 21)) 0 0 0 v 0 g 0 s B2 g2 s0 (by omega)
      obtain ⟨B3, hB3⟩ : ∃ B3, B3 = zup (snB B2 s (50 + (kd + 21)) 0 v g) 197 49 s := ⟨_, rfl⟩
      have fB3 : ∀ x y, ¬ (x = 197 ∧ y = 49) → B3 x y = snB B2 s (50 + (kd + 21)) 0 v g x y := fun x y z => by rw [hB3, zup_f z]
      obtain ⟨i1, i2, i3, i4⟩ := snA_r (A := A2) (s := s) (w := kd) (n := v) (g := g)
      obtain ⟨b1, b2, b3, b4, b5⟩ := snB_r (B := B2) (s := s) (w := 50 + (kd + 21)) (a := 0) (b := v) (r := g)
      refine ⟨snA A2 s kd v g, B3, 1, rC _ _ ?_, rM _ _ ?_, frS_t (frS_X fX) frS_a, fun x y z1 z2 => ?_, Or.inl ⟨rfl, ?_, ⟨i1, ?_, ?_, ?_, ?_, ?_⟩, ?_, fun x j h1 h2 h3 h4 => ?_, fun y h1 h2 => ?_⟩⟩
      · rw [e97_35]
        simp (disch := first | assumption | exact zrm0 | exact zrm1 _ | exact zrm2 _ _ | exact zrm3 _ _ _ | exact zrm4 _ _ _ _ | omega) only [m97, ↓k_dp, ↓k_dn, k_dp, k_dn, k_dT, k_dF, k_ip, k_in, if_true, if_false, ne_eq, not_true_eq_false, not_false_eq_true, Int.reduceAdd, zup_a, zup_e, zup_j, z32_id, k_al0, k_gR, k_gI, k_is2, k_il2, k_ic, k_iceq, k_v2r, k_rz, k_v1, k_v3r, k_is3, k_il3, k_il1, k_v4r, k_ifeq, k_goto, zb0_some, zb1_some, e97_0, e97_1, e97_4, e97_7, e97_8, e97_9, e97_11, e97_14, e97_15, e97_17, e97_20, e97_21, e97_23, e97_26, e97_27, e97_30, e97_31, e97_34, e97_36, e97_39, e97_42, e97_43, e97_46, e97_47, e97_50, e97_53, e97_54, e97_55, e97_56, e97_59, e97_60, e97_63, e97_64, e97_65, e97_66, e97_69, e97_72, e97_73, e97_76, e97_77, a1, c1, ha]
      · rw [e293_33, hB3]
        simp (disch := first | assumption | exact zrm0 | exact zrm1 _ | exact zrm2 _ _ | exact zrm3 _ _ _ | exact zrm4 _ _ _ _ | omega) only [m293, ↓k_dp, ↓k_dn, k_dp, k_dn, k_dT, k_dF, k_ip, k_in, if_true, if_false, ne_eq, not_true_eq_false, not_false_eq_true, Int.reduceAdd, zup_a, zup_e, zup_j, z32_id, k_al0, k_ic, k_v2r, k_ifne, k_rz, k_gI, k_is2, k_v1, k_v3r, k_il1, k_iadd, k_il2, k_v5r, k_pI, zb0_some, zb1_some, e293_0, e293_1, e293_3, e293_6, e293_9, e293_10, e293_12, e293_15, e293_18, e293_19, e293_21, e293_24, e293_27, e293_28, e293_29, e293_32, e293_34, e293_37, e293_38, e293_39, e293_42, e293_43, e293_44, e293_47, e293_50, e293_53, e293_54, e293_55, e293_56, e293_57, e293_59, e293_60, e293_61, e293_62, e293_63, e293_66, e293_67, e293_70, e293_73, e293_74, hB9, a2, c2, d3, hb]
      · rw [fB3 x y (by omega), snB_f (by omega) (by omega), fY x y (by omega)]
      · exact tkR_fr d4 (fun x y z => snA_f (by omega) (by omega)) (fun x y z => by rw [fB3 x y (by omega), snB_f (by omega) (by omega)])
      · rw [snA_f (by omega) (by omega), fX _ _ (by omega)]
      · rw [fB3 _ _ (by omega)]; exact b1
      · rw [fB3 _ _ (by omega), snB_f (by omega) (by omega), fY _ _ (by omega)]
      · rw [fB3 _ _ (by omega), snB_f (by omega) (by omega), fY _ _ (by omega)]
      · rw [hB3, zup_e (by omega)]
      · rw [i2, i3, i4, fB3 _ _ (by omega), fB3 _ _ (by omega), fB3 _ _ (by omega), fB3 _ _ (by omega), b2, b3, b4, b5]
        unfold leafR
        omega
      · rw [snA_f (by omega) (by omega), fX _ _ (by omega)]
      · rw [fB3 _ _ (by omega), snB_f (by omega) (by omega), fY _ _ (by omega)]
    · refine ⟨A2, B2, 0, rC _ _ ?_, rM _ _ ?_, frS_X fX, frT_Y fY, Or.inr ⟨rfl, d1⟩⟩
      · rw [e97_35]
        simp (disch := first | assumption | exact zrm0 | exact zrm1 _ | exact zrm2 _ _ | exact zrm3 _ _ _ | exact zrm4 _ _ _ _ | omega) only [m97, ↓k_dp, ↓k_dn, k_dp, k_dn, k_dT, k_dF, k_ip, k_in, if_true, if_false, ne_eq, not_true_eq_false, not_false_eq_true, Int.reduceAdd, zup_a, zup_e, zup_j, z32_id, k_al0, k_gR, k_gI, k_is2, k_il2, k_ic, k_iceq, k_v2r, k_rz, k_v1, k_v3r, k_is3, k_il3, k_il1, k_v4r, k_ifeq, k_goto, zb0_some, zb1_some, e97_0, e97_1, e97_4, e97_7, e97_8, e97_9, e97_11, e97_14, e97_15, e97_17, e97_20, e97_21, e97_23, e97_26, e97_27, e97_30, e97_31, e97_34, e97_36, e97_39, e97_42, e97_43, e97_46, e97_47, e97_50, e97_53, e97_54, e97_55, e97_56, e97_59, e97_60, e97_63, e97_64, e97_65, e97_66, e97_69, e97_72, e97_73, e97_76, e97_77, a1, c1]
      · rw [e293_33]
        simp (disch := first | assumption | exact zrm0 | exact zrm1 _ | exact zrm2 _ _ | exact zrm3 _ _ _ | exact zrm4 _ _ _ _ | omega) only [m293, ↓k_dp, ↓k_dn, k_dp, k_dn, k_dT, k_dF, k_ip, k_in, if_true, if_false, ne_eq, not_true_eq_false, not_false_eq_true, Int.reduceAdd, zup_a, zup_e, zup_j, z32_id, k_al0, k_ic, k_v2r, k_ifne, k_rz, k_gI, k_is2, k_v1, k_v3r, k_il1, k_iadd, k_il2, k_v5r, k_pI, zb0_some, zb1_some, e293_0, e293_1, e293_3, e293_6, e293_9, e293_10, e293_12, e293_15, e293_18, e293_19, e293_21, e293_24, e293_27, e293_28, e293_29, e293_32, e293_34, e293_37, e293_38, e293_39, e293_42, e293_43, e293_44, e293_47, e293_50, e293_53, e293_54, e293_55, e293_56, e293_57, e293_59, e293_60, e293_61, e293_62, e293_63, e293_66, e293_67, e293_70, e293_73, e293_74, hB9, a2, c2]
  · obtain ⟨Af, Bf, f1, f2, f3, f4, f5⟩ := p_fail h (k := 1) (by omega) (by omega) (fun _ => rfl)
    have f1' := f1 d 0 0 (by omega)
    have f2' := f2 e y0 0 (by omega)
    rw [if_neg (by omega)] at w0 w1 w2
    refine ⟨Af, Bf, 0, ?_, ?_, frS_X f3, frT_Y f4, Or.inr ⟨rfl, f5⟩⟩
    · simp (disch := first | assumption | exact zrm0 | exact zrm1 _ | exact zrm2 _ _ | exact zrm3 _ _ _ | exact zrm4 _ _ _ _ | omega) only [m97, ↓k_dp, ↓k_dn, k_dp, k_dn, k_dT, k_dF, k_ip, k_in, if_true, if_false, ne_eq, not_true_eq_false, not_false_eq_true, Int.reduceAdd, zup_a, zup_e, zup_j, z32_id, k_al0, k_gR, k_gI, k_is2, k_il2, k_ic, k_iceq, k_v2r, k_rz, k_v1, k_v3r, k_is3, k_il3, k_il1, k_v4r, k_ifeq, k_goto, zb0_some, zb1_some, e97_0, e97_1, e97_4, e97_7, e97_8, e97_9, e97_11, e97_14, e97_15, e97_17, e97_20, e97_21, e97_23, e97_26, e97_27, e97_30, e97_31, e97_34, e97_35, e97_36, e97_39, e97_42, e97_43, e97_46, e97_47, e97_50, e97_53, e97_54, e97_55, e97_56, e97_59, e97_60, e97_63, e97_64, e97_65, e97_66, e97_69, e97_72, e97_73, e97_76, e97_77, f1']
    · simp (disch := first | assumption | exact zrm0 | exact zrm1 _ | exact zrm2 _ _ | exact zrm3 _ _ _ | exact zrm4 _ _ _ _ | omega) only [m293, ↓k_dp, ↓k_dn, k_dp, k_dn, k_dT, k_dF, k_ip, k_in, if_true, if_false, ne_eq, not_true_eq_false, not_false_eq_true, Int.reduceAdd, zup_a, zup_e, zup_j, z32_id, k_al0, k_ic, k_v2r, k_ifne, k_rz, k_gI, k_is2, k_v1, k_v3r, k_il1, k_iadd, k_il2, k_v5r, k_pI, zb0_some, zb1_some, e293_0, e293_1, e293_3, e293_6, e293_9, e293_10, e293_12, e293_15, e293_18, e293_19, e293_21, e293_24, e293_27, e293_28, e293_29, e293_32, e293_33, e293_34, e293_37, e293_38, e293_39, e293_42, e293_43, e293_44, e293_47, e293_50, e293_53, e293_54, e293_55, e293_56, e293_57, e293_59, e293_60, e293_61, e293_62, e293_63, e293_66, e293_67, e293_70, e293_73, e293_74, w0, w1, w2, f2']
