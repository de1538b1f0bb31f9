/-! a valley's text, whole: clearing, copying, the beginning -/
theorem m152 (ph : Bool) (d : Nat) (a x0 : Int) (M : zM) : zEm ph (d + 1) 152 [(28, a, x0)] M = zEv ph d 152 0 [(28, a, x0), (3, 0, 0)] [] M := rfl
theorem e152_0 (ph : Bool) (d : Nat) (L st : List zV) (M : zM) : zEv ph d 152 0 L st M = zcont ph d 152 (zstep ph (zEm ph d) 0 1 0 [0] L st M) := zEv_step rfl
theorem e152_1 (ph : Bool) (d : Nat) (L st : List zV) (M : zM) : zEv ph d 152 1 L st M = zcont ph d 152 (zstep ph (zEm ph d) 5 2 0 [1] L st M) := zEv_step rfl
theorem e152_2 (ph : Bool) (d : Nat) (L st : List zV) (M : zM) : zEv ph d 152 2 L st M = zcont ph d 152 (zstep ph (zEm ph d) 2 3 0 [1] L st M) := zEv_step rfl
theorem e152_3 (ph : Bool) (d : Nat) (L st : List zV) (M : zM) : zEv ph d 152 3 L st M = zcont ph d 152 (zstep ph (zEm ph d) 4 4 0 [0] L st M) := zEv_step rfl
theorem e152_4 (ph : Bool) (d : Nat) (L st : List zV) (M : zM) : zEv ph d 152 4 L st M = zcont ph d 152 (zstep ph (zEm ph d) 62 7 0 [28, 4, 5, 10, 25] L st M) := zEv_step rfl
theorem e152_7 (ph : Bool) (d : Nat) (L st : List zV) (M : zM) : zEv ph d 152 7 L st M = zcont ph d 152 (zstep ph (zEm ph d) 84 8 0 [] L st M) := zEv_step rfl
theorem e152_8 (ph : Bool) (d : Nat) (L st : List zV) (M : zM) : zEv ph d 152 8 L st M = zcont ph d 152 (zstep ph (zEm ph d) 49 11 24 [] L st M) := zEv_step rfl
theorem e152_11 (ph : Bool) (d : Nat) (L st : List zV) (M : zM) : zEv ph d 152 11 L st M = zcont ph d 152 (zstep ph (zEm ph d) 4 12 0 [0] L st M) := zEv_step rfl
theorem e152_12 (ph : Bool) (d : Nat) (L st : List zV) (M : zM) : zEv ph d 152 12 L st M = zcont ph d 152 (zstep ph (zEm ph d) 62 15 0 [28, 4, 5, 10, 25] L st M) := zEv_step rfl
theorem e152_15 (ph : Bool) (d : Nat) (L st : List zV) (M : zM) : zEv ph d 152 15 L st M = zcont ph d 152 (zstep ph (zEm ph d) 2 16 0 [1] L st M) := zEv_step rfl
theorem e152_16 (ph : Bool) (d : Nat) (L st : List zV) (M : zM) : zEv ph d 152 16 L st M = zcont ph d 152 (zstep ph (zEm ph d) 0 17 0 [0] L st M) := zEv_step rfl
theorem e152_17 (ph : Bool) (d : Nat) (L st : List zV) (M : zM) : zEv ph d 152 17 L st M = zcont ph d 152 (zstep ph (zEm ph d) 89 18 0 [] L st M) := zEv_step rfl
theorem e152_18 (ph : Bool) (d : Nat) (L st : List zV) (M : zM) : zEv ph d 152 18 L st M = zcont ph d 152 (zstep ph (zEm ph d) 8 21 0 [1, 1] L st M) := zEv_step rfl
theorem e152_21 (ph : Bool) (d : Nat) (L st : List zV) (M : zM) : zEv ph d 152 21 L st M = zcont ph d 152 (zstep ph (zEm ph d) 52 24 2 [] L st M) := zEv_step rfl
theorem e152_24 (ph : Bool) (d : Nat) (L st : List zV) (M : zM) : zEv ph d 152 24 L st M = zcont ph d 152 (zstep ph (zEm ph d) 4 25 0 [0] L st M) := zEv_step rfl
theorem e152_25 (ph : Bool) (d : Nat) (L st : List zV) (M : zM) : zEv ph d 152 25 L st M = zcont ph d 152 (zstep ph (zEm ph d) 62 28 0 [28, 5, 6, 10, 2] L st M) := zEv_step rfl
theorem e152_28 (ph : Bool) (d : Nat) (L st : List zV) (M : zM) : zEv ph d 152 28 L st M = zcont ph d 152 (zstep ph (zEm ph d) 0 29 0 [0] L st M) := zEv_step rfl
theorem e152_29 (ph : Bool) (d : Nat) (L st : List zV) (M : zM) : zEv ph d 152 29 L st M = zcont ph d 152 (zstep ph (zEm ph d) 0 30 0 [0] L st M) := zEv_step rfl
theorem e152_30 (ph : Bool) (d : Nat) (L st : List zV) (M : zM) : zEv ph d 152 30 L st M = zcont ph d 152 (zstep ph (zEm ph d) 89 31 0 [] L st M) := zEv_step rfl
theorem e152_31 (ph : Bool) (d : Nat) (L st : List zV) (M : zM) : zEv ph d 152 31 L st M = zcont ph d 152 (zstep ph (zEm ph d) 4 32 0 [0] L st M) := zEv_step rfl
theorem e152_32 (ph : Bool) (d : Nat) (L st : List zV) (M : zM) : zEv ph d 152 32 L st M = zcont ph d 152 (zstep ph (zEm ph d) 62 35 0 [28, 5, 6, 10, 2] L st M) := zEv_step rfl
theorem e152_35 (ph : Bool) (d : Nat) (L st : List zV) (M : zM) : zEv ph d 152 35 L st M = zcont ph d 152 (zstep ph (zEm ph d) 0 36 0 [1] L st M) := zEv_step rfl
theorem e152_36 (ph : Bool) (d : Nat) (L st : List zV) (M : zM) : zEv ph d 152 36 L st M = zcont ph d 152 (zstep ph (zEm ph d) 0 37 0 [0] L st M) := zEv_step rfl
theorem e152_37 (ph : Bool) (d : Nat) (L st : List zV) (M : zM) : zEv ph d 152 37 L st M = zcont ph d 152 (zstep ph (zEm ph d) 89 38 0 [] L st M) := zEv_step rfl
theorem e152_38 (ph : Bool) (d : Nat) (L st : List zV) (M : zM) : zEv ph d 152 38 L st M = zcont ph d 152 (zstep ph (zEm ph d) 4 39 0 [0] L st M) := zEv_step rfl
theorem e152_39 (ph : Bool) (d : Nat) (L st : List zV) (M : zM) : zEv ph d 152 39 L st M = zcont ph d 152 (zstep ph (zEm ph d) 0 40 0 [0] L st M) := zEv_step rfl
theorem e152_40 (ph : Bool) (d : Nat) (L st : List zV) (M : zM) : zEv ph d 152 40 L st M = zcont ph d 152 (zstep ph (zEm ph d) 65 43 0 [28, 6] L st M) := zEv_step rfl
theorem e152_43 (ph : Bool) (d : Nat) (L st : List zV) (M : zM) : zEv ph d 152 43 L st M = zcont ph d 152 (zstep ph (zEm ph d) 4 44 0 [0] L st M) := zEv_step rfl
theorem e152_44 (ph : Bool) (d : Nat) (L st : List zV) (M : zM) : zEv ph d 152 44 L st M = zcont ph d 152 (zstep ph (zEm ph d) 0 45 0 [0] L st M) := zEv_step rfl
theorem e152_45 (ph : Bool) (d : Nat) (L st : List zV) (M : zM) : zEv ph d 152 45 L st M = zcont ph d 152 (zstep ph (zEm ph d) 65 48 0 [28, 7] L st M) := zEv_step rfl
theorem e152_48 (ph : Bool) (d : Nat) (L st : List zV) (M : zM) : zEv ph d 152 48 L st M = zcont ph d 152 (zstep ph (zEm ph d) 4 49 0 [0] L st M) := zEv_step rfl
theorem e152_49 (ph : Bool) (d : Nat) (L st : List zV) (M : zM) : zEv ph d 152 49 L st M = zcont ph d 152 (zstep ph (zEm ph d) 0 50 0 [0] L st M) := zEv_step rfl
theorem e152_50 (ph : Bool) (d : Nat) (L st : List zV) (M : zM) : zEv ph d 152 50 L st M = zcont ph d 152 (zstep ph (zEm ph d) 65 53 0 [28, 8] L st M) := zEv_step rfl
theorem e152_53 (ph : Bool) (d : Nat) (L st : List zV) (M : zM) : zEv ph d 152 53 L st M = zcont ph d 152 (zstep ph (zEm ph d) 4 54 0 [0] L st M) := zEv_step rfl
theorem e152_54 (ph : Bool) (d : Nat) (L st : List zV) (M : zM) : zEv ph d 152 54 L st M = zcont ph d 152 (zstep ph (zEm ph d) 0 55 0 [0] L st M) := zEv_step rfl
theorem e152_55 (ph : Bool) (d : Nat) (L st : List zV) (M : zM) : zEv ph d 152 55 L st M = zcont ph d 152 (zstep ph (zEm ph d) 65 58 0 [28, 9] L st M) := zEv_step rfl
theorem e152_58 (ph : Bool) (d : Nat) (L st : List zV) (M : zM) : zEv ph d 152 58 L st M = zcont ph d 152 (zstep ph (zEm ph d) 4 59 0 [0] L st M) := zEv_step rfl
theorem e152_59 (ph : Bool) (d : Nat) (L st : List zV) (M : zM) : zEv ph d 152 59 L st M = zcont ph d 152 (zstep ph (zEm ph d) 0 60 0 [2] L st M) := zEv_step rfl
theorem e152_60 (ph : Bool) (d : Nat) (L st : List zV) (M : zM) : zEv ph d 152 60 L st M = zcont ph d 152 (zstep ph (zEm ph d) 65 63 0 [28, 10] L st M) := zEv_step rfl
theorem e152_63 (ph : Bool) (d : Nat) (L st : List zV) (M : zM) : zEv ph d 152 63 L st M = zcont ph d 152 (zstep ph (zEm ph d) 4 64 0 [0] L st M) := zEv_step rfl
theorem e152_64 (ph : Bool) (d : Nat) (L st : List zV) (M : zM) : zEv ph d 152 64 L st M = zcont ph d 152 (zstep ph (zEm ph d) 0 65 0 [1] L st M) := zEv_step rfl
theorem e152_65 (ph : Bool) (d : Nat) (L st : List zV) (M : zM) : zEv ph d 152 65 L st M = zcont ph d 152 (zstep ph (zEm ph d) 65 68 0 [28, 11] L st M) := zEv_step rfl
theorem e152_68 (ph : Bool) (d : Nat) (L st : List zV) (M : zM) : zEv ph d 152 68 L st M = zcont ph d 152 (zstep ph (zEm ph d) 83 69 0 [] L st M) := zEv_step rfl
theorem m112 (ph : Bool) (d : Nat) (a x0 : Int) (M : zM) : zEm ph (d + 1) 112 [(26, a, x0)] M = zEv ph d 112 0 [(26, a, x0), (3, 0, 0)] [] M := rfl
theorem e112_0 (ph : Bool) (d : Nat) (L st : List zV) (M : zM) : zEv ph d 112 0 L st M = zcont ph d 112 (zstep ph (zEm ph d) 0 1 0 [0] L st M) := zEv_step rfl
theorem e112_1 (ph : Bool) (d : Nat) (L st : List zV) (M : zM) : zEv ph d 112 1 L st M = zcont ph d 112 (zstep ph (zEm ph d) 5 2 0 [1] L st M) := zEv_step rfl
theorem e112_2 (ph : Bool) (d : Nat) (L st : List zV) (M : zM) : zEv ph d 112 2 L st M = zcont ph d 112 (zstep ph (zEm ph d) 2 3 0 [1] L st M) := zEv_step rfl
theorem e112_3 (ph : Bool) (d : Nat) (L st : List zV) (M : zM) : zEv ph d 112 3 L st M = zcont ph d 112 (zstep ph (zEm ph d) 0 5 0 [10] L st M) := zEv_step rfl
theorem e112_5 (ph : Bool) (d : Nat) (L st : List zV) (M : zM) : zEv ph d 112 5 L st M = zcont ph d 112 (zstep ph (zEm ph d) 49 8 28 [] L st M) := zEv_step rfl
theorem e112_8 (ph : Bool) (d : Nat) (L st : List zV) (M : zM) : zEv ph d 112 8 L st M = zcont ph d 112 (zstep ph (zEm ph d) 4 9 0 [0] L st M) := zEv_step rfl
theorem e112_9 (ph : Bool) (d : Nat) (L st : List zV) (M : zM) : zEv ph d 112 9 L st M = zcont ph d 112 (zstep ph (zEm ph d) 62 12 0 [26, 0, 1, 10, 10] L st M) := zEv_step rfl
theorem e112_12 (ph : Bool) (d : Nat) (L st : List zV) (M : zM) : zEv ph d 112 12 L st M = zcont ph d 112 (zstep ph (zEm ph d) 2 13 0 [1] L st M) := zEv_step rfl
theorem e112_13 (ph : Bool) (d : Nat) (L st : List zV) (M : zM) : zEv ph d 112 13 L st M = zcont ph d 112 (zstep ph (zEm ph d) 0 14 0 [0] L st M) := zEv_step rfl
theorem e112_14 (ph : Bool) (d : Nat) (L st : List zV) (M : zM) : zEv ph d 112 14 L st M = zcont ph d 112 (zstep ph (zEm ph d) 89 15 0 [] L st M) := zEv_step rfl
theorem e112_15 (ph : Bool) (d : Nat) (L st : List zV) (M : zM) : zEv ph d 112 15 L st M = zcont ph d 112 (zstep ph (zEm ph d) 4 16 0 [0] L st M) := zEv_step rfl
theorem e112_16 (ph : Bool) (d : Nat) (L st : List zV) (M : zM) : zEv ph d 112 16 L st M = zcont ph d 112 (zstep ph (zEm ph d) 62 19 0 [26, 1, 2, 10, 10] L st M) := zEv_step rfl
theorem e112_19 (ph : Bool) (d : Nat) (L st : List zV) (M : zM) : zEv ph d 112 19 L st M = zcont ph d 112 (zstep ph (zEm ph d) 2 20 0 [1] L st M) := zEv_step rfl
theorem e112_20 (ph : Bool) (d : Nat) (L st : List zV) (M : zM) : zEv ph d 112 20 L st M = zcont ph d 112 (zstep ph (zEm ph d) 0 21 0 [0] L st M) := zEv_step rfl
theorem e112_21 (ph : Bool) (d : Nat) (L st : List zV) (M : zM) : zEv ph d 112 21 L st M = zcont ph d 112 (zstep ph (zEm ph d) 89 22 0 [] L st M) := zEv_step rfl
theorem e112_22 (ph : Bool) (d : Nat) (L st : List zV) (M : zM) : zEv ph d 112 22 L st M = zcont ph d 112 (zstep ph (zEm ph d) 8 25 0 [1, 1] L st M) := zEv_step rfl
theorem e112_25 (ph : Bool) (d : Nat) (L st : List zV) (M : zM) : zEv ph d 112 25 L st M = zcont ph d 112 (zstep ph (zEm ph d) 52 28 2 [] L st M) := zEv_step rfl
theorem e112_28 (ph : Bool) (d : Nat) (L st : List zV) (M : zM) : zEv ph d 112 28 L st M = zcont ph d 112 (zstep ph (zEm ph d) 0 29 0 [0] L st M) := zEv_step rfl
theorem e112_29 (ph : Bool) (d : Nat) (L st : List zV) (M : zM) : zEv ph d 112 29 L st M = zcont ph d 112 (zstep ph (zEm ph d) 5 30 0 [1] L st M) := zEv_step rfl
theorem e112_30 (ph : Bool) (d : Nat) (L st : List zV) (M : zM) : zEv ph d 112 30 L st M = zcont ph d 112 (zstep ph (zEm ph d) 2 31 0 [1] L st M) := zEv_step rfl
theorem e112_31 (ph : Bool) (d : Nat) (L st : List zV) (M : zM) : zEv ph d 112 31 L st M = zcont ph d 112 (zstep ph (zEm ph d) 0 32 0 [5] L st M) := zEv_step rfl
theorem e112_32 (ph : Bool) (d : Nat) (L st : List zV) (M : zM) : zEv ph d 112 32 L st M = zcont ph d 112 (zstep ph (zEm ph d) 49 35 76 [] L st M) := zEv_step rfl
theorem e112_35 (ph : Bool) (d : Nat) (L st : List zV) (M : zM) : zEv ph d 112 35 L st M = zcont ph d 112 (zstep ph (zEm ph d) 4 36 0 [0] L st M) := zEv_step rfl
theorem e112_36 (ph : Bool) (d : Nat) (L st : List zV) (M : zM) : zEv ph d 112 36 L st M = zcont ph d 112 (zstep ph (zEm ph d) 62 39 0 [26, 2, 3, 10, 5] L st M) := zEv_step rfl
theorem e112_39 (ph : Bool) (d : Nat) (L st : List zV) (M : zM) : zEv ph d 112 39 L st M = zcont ph d 112 (zstep ph (zEm ph d) 2 40 0 [1] L st M) := zEv_step rfl
theorem e112_40 (ph : Bool) (d : Nat) (L st : List zV) (M : zM) : zEv ph d 112 40 L st M = zcont ph d 112 (zstep ph (zEm ph d) 0 41 0 [0] L st M) := zEv_step rfl
theorem e112_41 (ph : Bool) (d : Nat) (L st : List zV) (M : zM) : zEv ph d 112 41 L st M = zcont ph d 112 (zstep ph (zEm ph d) 89 42 0 [] L st M) := zEv_step rfl
theorem e112_42 (ph : Bool) (d : Nat) (L st : List zV) (M : zM) : zEv ph d 112 42 L st M = zcont ph d 112 (zstep ph (zEm ph d) 4 43 0 [0] L st M) := zEv_step rfl
theorem e112_43 (ph : Bool) (d : Nat) (L st : List zV) (M : zM) : zEv ph d 112 43 L st M = zcont ph d 112 (zstep ph (zEm ph d) 62 46 0 [26, 3, 4, 10, 5] L st M) := zEv_step rfl
theorem e112_46 (ph : Bool) (d : Nat) (L st : List zV) (M : zM) : zEv ph d 112 46 L st M = zcont ph d 112 (zstep ph (zEm ph d) 2 47 0 [1] L st M) := zEv_step rfl
theorem e112_47 (ph : Bool) (d : Nat) (L st : List zV) (M : zM) : zEv ph d 112 47 L st M = zcont ph d 112 (zstep ph (zEm ph d) 0 48 0 [0] L st M) := zEv_step rfl
theorem e112_48 (ph : Bool) (d : Nat) (L st : List zV) (M : zM) : zEv ph d 112 48 L st M = zcont ph d 112 (zstep ph (zEm ph d) 89 49 0 [] L st M) := zEv_step rfl
theorem e112_49 (ph : Bool) (d : Nat) (L st : List zV) (M : zM) : zEv ph d 112 49 L st M = zcont ph d 112 (zstep ph (zEm ph d) 4 50 0 [0] L st M) := zEv_step rfl
theorem e112_50 (ph : Bool) (d : Nat) (L st : List zV) (M : zM) : zEv ph d 112 50 L st M = zcont ph d 112 (zstep ph (zEm ph d) 62 53 0 [26, 4, 5, 10, 5] L st M) := zEv_step rfl
theorem e112_53 (ph : Bool) (d : Nat) (L st : List zV) (M : zM) : zEv ph d 112 53 L st M = zcont ph d 112 (zstep ph (zEm ph d) 2 54 0 [1] L st M) := zEv_step rfl
theorem e112_54 (ph : Bool) (d : Nat) (L st : List zV) (M : zM) : zEv ph d 112 54 L st M = zcont ph d 112 (zstep ph (zEm ph d) 0 55 0 [0] L st M) := zEv_step rfl
theorem e112_55 (ph : Bool) (d : Nat) (L st : List zV) (M : zM) : zEv ph d 112 55 L st M = zcont ph d 112 (zstep ph (zEm ph d) 89 56 0 [] L st M) := zEv_step rfl
theorem e112_56 (ph : Bool) (d : Nat) (L st : List zV) (M : zM) : zEv ph d 112 56 L st M = zcont ph d 112 (zstep ph (zEm ph d) 4 57 0 [0] L st M) := zEv_step rfl
theorem e112_57 (ph : Bool) (d : Nat) (L st : List zV) (M : zM) : zEv ph d 112 57 L st M = zcont ph d 112 (zstep ph (zEm ph d) 62 60 0 [26, 5, 6, 10, 5] L st M) := zEv_step rfl
theorem e112_60 (ph : Bool) (d : Nat) (L st : List zV) (M : zM) : zEv ph d 112 60 L st M = zcont ph d 112 (zstep ph (zEm ph d) 2 61 0 [1] L st M) := zEv_step rfl
theorem e112_61 (ph : Bool) (d : Nat) (L st : List zV) (M : zM) : zEv ph d 112 61 L st M = zcont ph d 112 (zstep ph (zEm ph d) 0 62 0 [-1] L st M) := zEv_step rfl
theorem e112_62 (ph : Bool) (d : Nat) (L st : List zV) (M : zM) : zEv ph d 112 62 L st M = zcont ph d 112 (zstep ph (zEm ph d) 89 63 0 [] L st M) := zEv_step rfl
theorem e112_63 (ph : Bool) (d : Nat) (L st : List zV) (M : zM) : zEv ph d 112 63 L st M = zcont ph d 112 (zstep ph (zEm ph d) 4 64 0 [0] L st M) := zEv_step rfl
theorem e112_64 (ph : Bool) (d : Nat) (L st : List zV) (M : zM) : zEv ph d 112 64 L st M = zcont ph d 112 (zstep ph (zEm ph d) 62 67 0 [26, 6, 7, 10, 5] L st M) := zEv_step rfl
theorem e112_67 (ph : Bool) (d : Nat) (L st : List zV) (M : zM) : zEv ph d 112 67 L st M = zcont ph d 112 (zstep ph (zEm ph d) 2 68 0 [1] L st M) := zEv_step rfl
theorem e112_68 (ph : Bool) (d : Nat) (L st : List zV) (M : zM) : zEv ph d 112 68 L st M = zcont ph d 112 (zstep ph (zEm ph d) 0 69 0 [-1] L st M) := zEv_step rfl
theorem e112_69 (ph : Bool) (d : Nat) (L st : List zV) (M : zM) : zEv ph d 112 69 L st M = zcont ph d 112 (zstep ph (zEm ph d) 89 70 0 [] L st M) := zEv_step rfl
theorem e112_70 (ph : Bool) (d : Nat) (L st : List zV) (M : zM) : zEv ph d 112 70 L st M = zcont ph d 112 (zstep ph (zEm ph d) 8 73 0 [1, 1] L st M) := zEv_step rfl
theorem e112_73 (ph : Bool) (d : Nat) (L st : List zV) (M : zM) : zEv ph d 112 73 L st M = zcont ph d 112 (zstep ph (zEm ph d) 52 76 30 [] L st M) := zEv_step rfl
theorem e112_76 (ph : Bool) (d : Nat) (L st : List zV) (M : zM) : zEv ph d 112 76 L st M = zcont ph d 112 (zstep ph (zEm ph d) 4 77 0 [0] L st M) := zEv_step rfl
theorem e112_77 (ph : Bool) (d : Nat) (L st : List zV) (M : zM) : zEv ph d 112 77 L st M = zcont ph d 112 (zstep ph (zEm ph d) 62 80 0 [26, 7, 8, 10, 2] L st M) := zEv_step rfl
theorem e112_80 (ph : Bool) (d : Nat) (L st : List zV) (M : zM) : zEv ph d 112 80 L st M = zcont ph d 112 (zstep ph (zEm ph d) 0 81 0 [0] L st M) := zEv_step rfl
theorem e112_81 (ph : Bool) (d : Nat) (L st : List zV) (M : zM) : zEv ph d 112 81 L st M = zcont ph d 112 (zstep ph (zEm ph d) 0 82 0 [0] L st M) := zEv_step rfl
theorem e112_82 (ph : Bool) (d : Nat) (L st : List zV) (M : zM) : zEv ph d 112 82 L st M = zcont ph d 112 (zstep ph (zEm ph d) 89 83 0 [] L st M) := zEv_step rfl
theorem e112_83 (ph : Bool) (d : Nat) (L st : List zV) (M : zM) : zEv ph d 112 83 L st M = zcont ph d 112 (zstep ph (zEm ph d) 4 84 0 [0] L st M) := zEv_step rfl
theorem e112_84 (ph : Bool) (d : Nat) (L st : List zV) (M : zM) : zEv ph d 112 84 L st M = zcont ph d 112 (zstep ph (zEm ph d) 62 87 0 [26, 7, 8, 10, 2] L st M) := zEv_step rfl
theorem e112_87 (ph : Bool) (d : Nat) (L st : List zV) (M : zM) : zEv ph d 112 87 L st M = zcont ph d 112 (zstep ph (zEm ph d) 0 88 0 [1] L st M) := zEv_step rfl
theorem e112_88 (ph : Bool) (d : Nat) (L st : List zV) (M : zM) : zEv ph d 112 88 L st M = zcont ph d 112 (zstep ph (zEm ph d) 0 89 0 [0] L st M) := zEv_step rfl
theorem e112_89 (ph : Bool) (d : Nat) (L st : List zV) (M : zM) : zEv ph d 112 89 L st M = zcont ph d 112 (zstep ph (zEm ph d) 89 90 0 [] L st M) := zEv_step rfl
theorem e112_90 (ph : Bool) (d : Nat) (L st : List zV) (M : zM) : zEv ph d 112 90 L st M = zcont ph d 112 (zstep ph (zEm ph d) 4 91 0 [0] L st M) := zEv_step rfl
theorem e112_91 (ph : Bool) (d : Nat) (L st : List zV) (M : zM) : zEv ph d 112 91 L st M = zcont ph d 112 (zstep ph (zEm ph d) 0 92 0 [0] L st M) := zEv_step rfl
theorem e112_92 (ph : Bool) (d : Nat) (L st : List zV) (M : zM) : zEv ph d 112 92 L st M = zcont ph d 112 (zstep ph (zEm ph d) 65 95 0 [26, 8] L st M) := zEv_step rfl
theorem e112_95 (ph : Bool) (d : Nat) (L st : List zV) (M : zM) : zEv ph d 112 95 L st M = zcont ph d 112 (zstep ph (zEm ph d) 4 96 0 [0] L st M) := zEv_step rfl
theorem e112_96 (ph : Bool) (d : Nat) (L st : List zV) (M : zM) : zEv ph d 112 96 L st M = zcont ph d 112 (zstep ph (zEm ph d) 0 97 0 [0] L st M) := zEv_step rfl
theorem e112_97 (ph : Bool) (d : Nat) (L st : List zV) (M : zM) : zEv ph d 112 97 L st M = zcont ph d 112 (zstep ph (zEm ph d) 65 100 0 [26, 9] L st M) := zEv_step rfl
theorem e112_100 (ph : Bool) (d : Nat) (L st : List zV) (M : zM) : zEv ph d 112 100 L st M = zcont ph d 112 (zstep ph (zEm ph d) 4 101 0 [0] L st M) := zEv_step rfl
theorem e112_101 (ph : Bool) (d : Nat) (L st : List zV) (M : zM) : zEv ph d 112 101 L st M = zcont ph d 112 (zstep ph (zEm ph d) 0 102 0 [0] L st M) := zEv_step rfl
theorem e112_102 (ph : Bool) (d : Nat) (L st : List zV) (M : zM) : zEv ph d 112 102 L st M = zcont ph d 112 (zstep ph (zEm ph d) 65 105 0 [26, 10] L st M) := zEv_step rfl
theorem e112_105 (ph : Bool) (d : Nat) (L st : List zV) (M : zM) : zEv ph d 112 105 L st M = zcont ph d 112 (zstep ph (zEm ph d) 83 106 0 [] L st M) := zEv_step rfl
theorem m104 (ph : Bool) (d : Nat) (a x0 : Int) (M : zM) : zEm ph (d + 1) 104 [(25, a, x0)] M = zEv ph d 104 0 [(25, a, x0)] [] M := rfl
theorem e104_0 (ph : Bool) (d : Nat) (L st : List zV) (M : zM) : zEv ph d 104 0 L st M = zcont ph d 104 (zstep ph (zEm ph d) 4 1 0 [0] L st M) := zEv_step rfl
theorem e104_1 (ph : Bool) (d : Nat) (L st : List zV) (M : zM) : zEv ph d 104 1 L st M = zcont ph d 104 (zstep ph (zEm ph d) 0 2 0 [0] L st M) := zEv_step rfl
theorem e104_2 (ph : Bool) (d : Nat) (L st : List zV) (M : zM) : zEv ph d 104 2 L st M = zcont ph d 104 (zstep ph (zEm ph d) 65 5 0 [25, 4] L st M) := zEv_step rfl
theorem e104_5 (ph : Bool) (d : Nat) (L st : List zV) (M : zM) : zEv ph d 104 5 L st M = zcont ph d 104 (zstep ph (zEm ph d) 4 6 0 [0] L st M) := zEv_step rfl
theorem e104_6 (ph : Bool) (d : Nat) (L st : List zV) (M : zM) : zEv ph d 104 6 L st M = zcont ph d 104 (zstep ph (zEm ph d) 0 7 0 [0] L st M) := zEv_step rfl
theorem e104_7 (ph : Bool) (d : Nat) (L st : List zV) (M : zM) : zEv ph d 104 7 L st M = zcont ph d 104 (zstep ph (zEm ph d) 65 10 0 [25, 5] L st M) := zEv_step rfl
theorem e104_10 (ph : Bool) (d : Nat) (L st : List zV) (M : zM) : zEv ph d 104 10 L st M = zcont ph d 104 (zstep ph (zEm ph d) 83 11 0 [] L st M) := zEv_step rfl
theorem m187 (ph : Bool) (d : Nat) (a x0 : Int) (M : zM) : zEm ph (d + 1) 187 [(30, a, x0)] M = zEv ph d 187 0 [(30, a, x0), (3, 0, 0)] [] M := rfl
theorem e187_0 (ph : Bool) (d : Nat) (L st : List zV) (M : zM) : zEv ph d 187 0 L st M = zcont ph d 187 (zstep ph (zEm ph d) 0 2 0 [75] L st M) := zEv_step rfl
theorem e187_2 (ph : Bool) (d : Nat) (L st : List zV) (M : zM) : zEv ph d 187 2 L st M = zcont ph d 187 (zstep ph (zEm ph d) 5 3 0 [1] L st M) := zEv_step rfl
theorem e187_3 (ph : Bool) (d : Nat) (L st : List zV) (M : zM) : zEv ph d 187 3 L st M = zcont ph d 187 (zstep ph (zEm ph d) 2 4 0 [1] L st M) := zEv_step rfl
theorem e187_4 (ph : Bool) (d : Nat) (L st : List zV) (M : zM) : zEv ph d 187 4 L st M = zcont ph d 187 (zstep ph (zEm ph d) 0 7 0 [368] L st M) := zEv_step rfl
theorem e187_7 (ph : Bool) (d : Nat) (L st : List zV) (M : zM) : zEv ph d 187 7 L st M = zcont ph d 187 (zstep ph (zEm ph d) 49 10 23 [] L st M) := zEv_step rfl
theorem e187_10 (ph : Bool) (d : Nat) (L st : List zV) (M : zM) : zEv ph d 187 10 L st M = zcont ph d 187 (zstep ph (zEm ph d) 4 11 0 [0] L st M) := zEv_step rfl
theorem e187_11 (ph : Bool) (d : Nat) (L st : List zV) (M : zM) : zEv ph d 187 11 L st M = zcont ph d 187 (zstep ph (zEm ph d) 62 14 0 [30, 14, 2, 10, 368] L st M) := zEv_step rfl
theorem e187_14 (ph : Bool) (d : Nat) (L st : List zV) (M : zM) : zEv ph d 187 14 L st M = zcont ph d 187 (zstep ph (zEm ph d) 2 15 0 [1] L st M) := zEv_step rfl
theorem e187_15 (ph : Bool) (d : Nat) (L st : List zV) (M : zM) : zEv ph d 187 15 L st M = zcont ph d 187 (zstep ph (zEm ph d) 0 16 0 [0] L st M) := zEv_step rfl
theorem e187_16 (ph : Bool) (d : Nat) (L st : List zV) (M : zM) : zEv ph d 187 16 L st M = zcont ph d 187 (zstep ph (zEm ph d) 89 17 0 [] L st M) := zEv_step rfl
theorem e187_17 (ph : Bool) (d : Nat) (L st : List zV) (M : zM) : zEv ph d 187 17 L st M = zcont ph d 187 (zstep ph (zEm ph d) 8 20 0 [1, 1] L st M) := zEv_step rfl
theorem e187_20 (ph : Bool) (d : Nat) (L st : List zV) (M : zM) : zEv ph d 187 20 L st M = zcont ph d 187 (zstep ph (zEm ph d) 52 23 3 [] L st M) := zEv_step rfl
theorem e187_23 (ph : Bool) (d : Nat) (L st : List zV) (M : zM) : zEv ph d 187 23 L st M = zcont ph d 187 (zstep ph (zEm ph d) 0 24 0 [0] L st M) := zEv_step rfl
theorem e187_24 (ph : Bool) (d : Nat) (L st : List zV) (M : zM) : zEv ph d 187 24 L st M = zcont ph d 187 (zstep ph (zEm ph d) 5 25 0 [1] L st M) := zEv_step rfl
theorem e187_25 (ph : Bool) (d : Nat) (L st : List zV) (M : zM) : zEv ph d 187 25 L st M = zcont ph d 187 (zstep ph (zEm ph d) 2 26 0 [1] L st M) := zEv_step rfl
theorem e187_26 (ph : Bool) (d : Nat) (L st : List zV) (M : zM) : zEv ph d 187 26 L st M = zcont ph d 187 (zstep ph (zEm ph d) 0 27 0 [2] L st M) := zEv_step rfl
theorem e187_27 (ph : Bool) (d : Nat) (L st : List zV) (M : zM) : zEv ph d 187 27 L st M = zcont ph d 187 (zstep ph (zEm ph d) 49 30 53 [] L st M) := zEv_step rfl
theorem e187_30 (ph : Bool) (d : Nat) (L st : List zV) (M : zM) : zEv ph d 187 30 L st M = zcont ph d 187 (zstep ph (zEm ph d) 4 31 0 [0] L st M) := zEv_step rfl
theorem e187_31 (ph : Bool) (d : Nat) (L st : List zV) (M : zM) : zEv ph d 187 31 L st M = zcont ph d 187 (zstep ph (zEm ph d) 62 34 0 [30, 14, 2, 10, 368] L st M) := zEv_step rfl
theorem e187_34 (ph : Bool) (d : Nat) (L st : List zV) (M : zM) : zEv ph d 187 34 L st M = zcont ph d 187 (zstep ph (zEm ph d) 0 36 0 [79] L st M) := zEv_step rfl
theorem e187_36 (ph : Bool) (d : Nat) (L st : List zV) (M : zM) : zEv ph d 187 36 L st M = zcont ph d 187 (zstep ph (zEm ph d) 2 37 0 [1] L st M) := zEv_step rfl
theorem e187_37 (ph : Bool) (d : Nat) (L st : List zV) (M : zM) : zEv ph d 187 37 L st M = zcont ph d 187 (zstep ph (zEm ph d) 10 38 0 [] L st M) := zEv_step rfl
theorem e187_38 (ph : Bool) (d : Nat) (L st : List zV) (M : zM) : zEv ph d 187 38 L st M = zcont ph d 187 (zstep ph (zEm ph d) 4 39 0 [0] L st M) := zEv_step rfl
theorem e187_39 (ph : Bool) (d : Nat) (L st : List zV) (M : zM) : zEv ph d 187 39 L st M = zcont ph d 187 (zstep ph (zEm ph d) 62 42 0 [30, 14, 2, 10, 368] L st M) := zEv_step rfl
theorem e187_42 (ph : Bool) (d : Nat) (L st : List zV) (M : zM) : zEv ph d 187 42 L st M = zcont ph d 187 (zstep ph (zEm ph d) 0 43 0 [5] L st M) := zEv_step rfl
theorem e187_43 (ph : Bool) (d : Nat) (L st : List zV) (M : zM) : zEv ph d 187 43 L st M = zcont ph d 187 (zstep ph (zEm ph d) 2 44 0 [1] L st M) := zEv_step rfl
theorem e187_44 (ph : Bool) (d : Nat) (L st : List zV) (M : zM) : zEv ph d 187 44 L st M = zcont ph d 187 (zstep ph (zEm ph d) 10 45 0 [] L st M) := zEv_step rfl
theorem e187_45 (ph : Bool) (d : Nat) (L st : List zV) (M : zM) : zEv ph d 187 45 L st M = zcont ph d 187 (zstep ph (zEm ph d) 85 46 0 [] L st M) := zEv_step rfl
theorem e187_46 (ph : Bool) (d : Nat) (L st : List zV) (M : zM) : zEv ph d 187 46 L st M = zcont ph d 187 (zstep ph (zEm ph d) 89 47 0 [] L st M) := zEv_step rfl
theorem e187_47 (ph : Bool) (d : Nat) (L st : List zV) (M : zM) : zEv ph d 187 47 L st M = zcont ph d 187 (zstep ph (zEm ph d) 8 50 0 [1, 1] L st M) := zEv_step rfl
theorem e187_50 (ph : Bool) (d : Nat) (L st : List zV) (M : zM) : zEv ph d 187 50 L st M = zcont ph d 187 (zstep ph (zEm ph d) 52 53 25 [] L st M) := zEv_step rfl
theorem e187_53 (ph : Bool) (d : Nat) (L st : List zV) (M : zM) : zEv ph d 187 53 L st M = zcont ph d 187 (zstep ph (zEm ph d) 0 54 0 [0] L st M) := zEv_step rfl
theorem e187_54 (ph : Bool) (d : Nat) (L st : List zV) (M : zM) : zEv ph d 187 54 L st M = zcont ph d 187 (zstep ph (zEm ph d) 5 55 0 [1] L st M) := zEv_step rfl
theorem e187_55 (ph : Bool) (d : Nat) (L st : List zV) (M : zM) : zEv ph d 187 55 L st M = zcont ph d 187 (zstep ph (zEm ph d) 2 56 0 [1] L st M) := zEv_step rfl
theorem e187_56 (ph : Bool) (d : Nat) (L st : List zV) (M : zM) : zEv ph d 187 56 L st M = zcont ph d 187 (zstep ph (zEm ph d) 0 58 0 [10] L st M) := zEv_step rfl
theorem e187_58 (ph : Bool) (d : Nat) (L st : List zV) (M : zM) : zEv ph d 187 58 L st M = zcont ph d 187 (zstep ph (zEm ph d) 49 61 103 [] L st M) := zEv_step rfl
theorem e187_61 (ph : Bool) (d : Nat) (L st : List zV) (M : zM) : zEv ph d 187 61 L st M = zcont ph d 187 (zstep ph (zEm ph d) 4 62 0 [0] L st M) := zEv_step rfl
theorem e187_62 (ph : Bool) (d : Nat) (L st : List zV) (M : zM) : zEv ph d 187 62 L st M = zcont ph d 187 (zstep ph (zEm ph d) 62 65 0 [30, 14, 2, 10, 368] L st M) := zEv_step rfl
theorem e187_65 (ph : Bool) (d : Nat) (L st : List zV) (M : zM) : zEv ph d 187 65 L st M = zcont ph d 187 (zstep ph (zEm ph d) 0 67 0 [81] L st M) := zEv_step rfl
theorem e187_67 (ph : Bool) (d : Nat) (L st : List zV) (M : zM) : zEv ph d 187 67 L st M = zcont ph d 187 (zstep ph (zEm ph d) 2 68 0 [1] L st M) := zEv_step rfl
theorem e187_68 (ph : Bool) (d : Nat) (L st : List zV) (M : zM) : zEv ph d 187 68 L st M = zcont ph d 187 (zstep ph (zEm ph d) 10 69 0 [] L st M) := zEv_step rfl
theorem e187_69 (ph : Bool) (d : Nat) (L st : List zV) (M : zM) : zEv ph d 187 69 L st M = zcont ph d 187 (zstep ph (zEm ph d) 4 70 0 [0] L st M) := zEv_step rfl
theorem e187_70 (ph : Bool) (d : Nat) (L st : List zV) (M : zM) : zEv ph d 187 70 L st M = zcont ph d 187 (zstep ph (zEm ph d) 62 73 0 [30, 14, 2, 10, 368] L st M) := zEv_step rfl
theorem e187_73 (ph : Bool) (d : Nat) (L st : List zV) (M : zM) : zEv ph d 187 73 L st M = zcont ph d 187 (zstep ph (zEm ph d) 0 75 0 [19] L st M) := zEv_step rfl
theorem e187_75 (ph : Bool) (d : Nat) (L st : List zV) (M : zM) : zEv ph d 187 75 L st M = zcont ph d 187 (zstep ph (zEm ph d) 2 76 0 [1] L st M) := zEv_step rfl
theorem e187_76 (ph : Bool) (d : Nat) (L st : List zV) (M : zM) : zEv ph d 187 76 L st M = zcont ph d 187 (zstep ph (zEm ph d) 10 77 0 [] L st M) := zEv_step rfl
theorem e187_77 (ph : Bool) (d : Nat) (L st : List zV) (M : zM) : zEv ph d 187 77 L st M = zcont ph d 187 (zstep ph (zEm ph d) 85 78 0 [] L st M) := zEv_step rfl
theorem e187_78 (ph : Bool) (d : Nat) (L st : List zV) (M : zM) : zEv ph d 187 78 L st M = zcont ph d 187 (zstep ph (zEm ph d) 89 79 0 [] L st M) := zEv_step rfl
theorem e187_79 (ph : Bool) (d : Nat) (L st : List zV) (M : zM) : zEv ph d 187 79 L st M = zcont ph d 187 (zstep ph (zEm ph d) 4 80 0 [0] L st M) := zEv_step rfl
theorem e187_80 (ph : Bool) (d : Nat) (L st : List zV) (M : zM) : zEv ph d 187 80 L st M = zcont ph d 187 (zstep ph (zEm ph d) 62 83 0 [30, 14, 2, 10, 368] L st M) := zEv_step rfl
theorem e187_83 (ph : Bool) (d : Nat) (L st : List zV) (M : zM) : zEv ph d 187 83 L st M = zcont ph d 187 (zstep ph (zEm ph d) 0 85 0 [91] L st M) := zEv_step rfl
theorem e187_85 (ph : Bool) (d : Nat) (L st : List zV) (M : zM) : zEv ph d 187 85 L st M = zcont ph d 187 (zstep ph (zEm ph d) 2 86 0 [1] L st M) := zEv_step rfl
theorem e187_86 (ph : Bool) (d : Nat) (L st : List zV) (M : zM) : zEv ph d 187 86 L st M = zcont ph d 187 (zstep ph (zEm ph d) 10 87 0 [] L st M) := zEv_step rfl
theorem e187_87 (ph : Bool) (d : Nat) (L st : List zV) (M : zM) : zEv ph d 187 87 L st M = zcont ph d 187 (zstep ph (zEm ph d) 4 88 0 [0] L st M) := zEv_step rfl
theorem e187_88 (ph : Bool) (d : Nat) (L st : List zV) (M : zM) : zEv ph d 187 88 L st M = zcont ph d 187 (zstep ph (zEm ph d) 62 91 0 [30, 14, 2, 10, 368] L st M) := zEv_step rfl
theorem e187_91 (ph : Bool) (d : Nat) (L st : List zV) (M : zM) : zEv ph d 187 91 L st M = zcont ph d 187 (zstep ph (zEm ph d) 0 93 0 [29] L st M) := zEv_step rfl
theorem e187_93 (ph : Bool) (d : Nat) (L st : List zV) (M : zM) : zEv ph d 187 93 L st M = zcont ph d 187 (zstep ph (zEm ph d) 2 94 0 [1] L st M) := zEv_step rfl
theorem e187_94 (ph : Bool) (d : Nat) (L st : List zV) (M : zM) : zEv ph d 187 94 L st M = zcont ph d 187 (zstep ph (zEm ph d) 10 95 0 [] L st M) := zEv_step rfl
theorem e187_95 (ph : Bool) (d : Nat) (L st : List zV) (M : zM) : zEv ph d 187 95 L st M = zcont ph d 187 (zstep ph (zEm ph d) 85 96 0 [] L st M) := zEv_step rfl
theorem e187_96 (ph : Bool) (d : Nat) (L st : List zV) (M : zM) : zEv ph d 187 96 L st M = zcont ph d 187 (zstep ph (zEm ph d) 89 97 0 [] L st M) := zEv_step rfl
theorem e187_97 (ph : Bool) (d : Nat) (L st : List zV) (M : zM) : zEv ph d 187 97 L st M = zcont ph d 187 (zstep ph (zEm ph d) 8 100 0 [1, 1] L st M) := zEv_step rfl
theorem e187_100 (ph : Bool) (d : Nat) (L st : List zV) (M : zM) : zEv ph d 187 100 L st M = zcont ph d 187 (zstep ph (zEm ph d) 52 103 55 [] L st M) := zEv_step rfl
theorem e187_103 (ph : Bool) (d : Nat) (L st : List zV) (M : zM) : zEv ph d 187 103 L st M = zcont ph d 187 (zstep ph (zEm ph d) 0 104 0 [0] L st M) := zEv_step rfl
theorem e187_104 (ph : Bool) (d : Nat) (L st : List zV) (M : zM) : zEv ph d 187 104 L st M = zcont ph d 187 (zstep ph (zEm ph d) 5 105 0 [1] L st M) := zEv_step rfl
theorem e187_105 (ph : Bool) (d : Nat) (L st : List zV) (M : zM) : zEv ph d 187 105 L st M = zcont ph d 187 (zstep ph (zEm ph d) 2 106 0 [1] L st M) := zEv_step rfl
theorem e187_106 (ph : Bool) (d : Nat) (L st : List zV) (M : zM) : zEv ph d 187 106 L st M = zcont ph d 187 (zstep ph (zEm ph d) 0 107 0 [5] L st M) := zEv_step rfl
theorem e187_107 (ph : Bool) (d : Nat) (L st : List zV) (M : zM) : zEv ph d 187 107 L st M = zcont ph d 187 (zstep ph (zEm ph d) 49 110 172 [] L st M) := zEv_step rfl
theorem e187_110 (ph : Bool) (d : Nat) (L st : List zV) (M : zM) : zEv ph d 187 110 L st M = zcont ph d 187 (zstep ph (zEm ph d) 4 111 0 [0] L st M) := zEv_step rfl
theorem e187_111 (ph : Bool) (d : Nat) (L st : List zV) (M : zM) : zEv ph d 187 111 L st M = zcont ph d 187 (zstep ph (zEm ph d) 62 114 0 [30, 14, 2, 10, 368] L st M) := zEv_step rfl
theorem e187_114 (ph : Bool) (d : Nat) (L st : List zV) (M : zM) : zEv ph d 187 114 L st M = zcont ph d 187 (zstep ph (zEm ph d) 0 116 0 [101] L st M) := zEv_step rfl
theorem e187_116 (ph : Bool) (d : Nat) (L st : List zV) (M : zM) : zEv ph d 187 116 L st M = zcont ph d 187 (zstep ph (zEm ph d) 2 117 0 [1] L st M) := zEv_step rfl
theorem e187_117 (ph : Bool) (d : Nat) (L st : List zV) (M : zM) : zEv ph d 187 117 L st M = zcont ph d 187 (zstep ph (zEm ph d) 10 118 0 [] L st M) := zEv_step rfl
theorem e187_118 (ph : Bool) (d : Nat) (L st : List zV) (M : zM) : zEv ph d 187 118 L st M = zcont ph d 187 (zstep ph (zEm ph d) 4 119 0 [0] L st M) := zEv_step rfl
theorem e187_119 (ph : Bool) (d : Nat) (L st : List zV) (M : zM) : zEv ph d 187 119 L st M = zcont ph d 187 (zstep ph (zEm ph d) 62 122 0 [30, 14, 2, 10, 368] L st M) := zEv_step rfl
theorem e187_122 (ph : Bool) (d : Nat) (L st : List zV) (M : zM) : zEv ph d 187 122 L st M = zcont ph d 187 (zstep ph (zEm ph d) 0 124 0 [40] L st M) := zEv_step rfl
theorem e187_124 (ph : Bool) (d : Nat) (L st : List zV) (M : zM) : zEv ph d 187 124 L st M = zcont ph d 187 (zstep ph (zEm ph d) 2 125 0 [1] L st M) := zEv_step rfl
theorem e187_125 (ph : Bool) (d : Nat) (L st : List zV) (M : zM) : zEv ph d 187 125 L st M = zcont ph d 187 (zstep ph (zEm ph d) 10 126 0 [] L st M) := zEv_step rfl
theorem e187_126 (ph : Bool) (d : Nat) (L st : List zV) (M : zM) : zEv ph d 187 126 L st M = zcont ph d 187 (zstep ph (zEm ph d) 85 127 0 [] L st M) := zEv_step rfl
theorem e187_127 (ph : Bool) (d : Nat) (L st : List zV) (M : zM) : zEv ph d 187 127 L st M = zcont ph d 187 (zstep ph (zEm ph d) 89 128 0 [] L st M) := zEv_step rfl
theorem e187_128 (ph : Bool) (d : Nat) (L st : List zV) (M : zM) : zEv ph d 187 128 L st M = zcont ph d 187 (zstep ph (zEm ph d) 4 129 0 [0] L st M) := zEv_step rfl
theorem e187_129 (ph : Bool) (d : Nat) (L st : List zV) (M : zM) : zEv ph d 187 129 L st M = zcont ph d 187 (zstep ph (zEm ph d) 62 132 0 [30, 14, 2, 10, 368] L st M) := zEv_step rfl
theorem e187_132 (ph : Bool) (d : Nat) (L st : List zV) (M : zM) : zEv ph d 187 132 L st M = zcont ph d 187 (zstep ph (zEm ph d) 0 134 0 [106] L st M) := zEv_step rfl
theorem e187_134 (ph : Bool) (d : Nat) (L st : List zV) (M : zM) : zEv ph d 187 134 L st M = zcont ph d 187 (zstep ph (zEm ph d) 2 135 0 [1] L st M) := zEv_step rfl
theorem e187_135 (ph : Bool) (d : Nat) (L st : List zV) (M : zM) : zEv ph d 187 135 L st M = zcont ph d 187 (zstep ph (zEm ph d) 10 136 0 [] L st M) := zEv_step rfl
theorem e187_136 (ph : Bool) (d : Nat) (L st : List zV) (M : zM) : zEv ph d 187 136 L st M = zcont ph d 187 (zstep ph (zEm ph d) 4 137 0 [0] L st M) := zEv_step rfl
theorem e187_137 (ph : Bool) (d : Nat) (L st : List zV) (M : zM) : zEv ph d 187 137 L st M = zcont ph d 187 (zstep ph (zEm ph d) 62 140 0 [30, 14, 2, 10, 368] L st M) := zEv_step rfl
theorem e187_140 (ph : Bool) (d : Nat) (L st : List zV) (M : zM) : zEv ph d 187 140 L st M = zcont ph d 187 (zstep ph (zEm ph d) 0 142 0 [45] L st M) := zEv_step rfl
theorem e187_142 (ph : Bool) (d : Nat) (L st : List zV) (M : zM) : zEv ph d 187 142 L st M = zcont ph d 187 (zstep ph (zEm ph d) 2 143 0 [1] L st M) := zEv_step rfl
theorem e187_143 (ph : Bool) (d : Nat) (L st : List zV) (M : zM) : zEv ph d 187 143 L st M = zcont ph d 187 (zstep ph (zEm ph d) 10 144 0 [] L st M) := zEv_step rfl
theorem e187_144 (ph : Bool) (d : Nat) (L st : List zV) (M : zM) : zEv ph d 187 144 L st M = zcont ph d 187 (zstep ph (zEm ph d) 85 145 0 [] L st M) := zEv_step rfl
theorem e187_145 (ph : Bool) (d : Nat) (L st : List zV) (M : zM) : zEv ph d 187 145 L st M = zcont ph d 187 (zstep ph (zEm ph d) 89 146 0 [] L st M) := zEv_step rfl
theorem e187_146 (ph : Bool) (d : Nat) (L st : List zV) (M : zM) : zEv ph d 187 146 L st M = zcont ph d 187 (zstep ph (zEm ph d) 4 147 0 [0] L st M) := zEv_step rfl
theorem e187_147 (ph : Bool) (d : Nat) (L st : List zV) (M : zM) : zEv ph d 187 147 L st M = zcont ph d 187 (zstep ph (zEm ph d) 62 150 0 [30, 14, 2, 10, 368] L st M) := zEv_step rfl
theorem e187_150 (ph : Bool) (d : Nat) (L st : List zV) (M : zM) : zEv ph d 187 150 L st M = zcont ph d 187 (zstep ph (zEm ph d) 0 152 0 [116] L st M) := zEv_step rfl
theorem e187_152 (ph : Bool) (d : Nat) (L st : List zV) (M : zM) : zEv ph d 187 152 L st M = zcont ph d 187 (zstep ph (zEm ph d) 2 153 0 [1] L st M) := zEv_step rfl
theorem e187_153 (ph : Bool) (d : Nat) (L st : List zV) (M : zM) : zEv ph d 187 153 L st M = zcont ph d 187 (zstep ph (zEm ph d) 10 154 0 [] L st M) := zEv_step rfl
theorem e187_154 (ph : Bool) (d : Nat) (L st : List zV) (M : zM) : zEv ph d 187 154 L st M = zcont ph d 187 (zstep ph (zEm ph d) 0 155 0 [-1] L st M) := zEv_step rfl
theorem e187_155 (ph : Bool) (d : Nat) (L st : List zV) (M : zM) : zEv ph d 187 155 L st M = zcont ph d 187 (zstep ph (zEm ph d) 89 156 0 [] L st M) := zEv_step rfl
theorem e187_156 (ph : Bool) (d : Nat) (L st : List zV) (M : zM) : zEv ph d 187 156 L st M = zcont ph d 187 (zstep ph (zEm ph d) 4 157 0 [0] L st M) := zEv_step rfl
theorem e187_157 (ph : Bool) (d : Nat) (L st : List zV) (M : zM) : zEv ph d 187 157 L st M = zcont ph d 187 (zstep ph (zEm ph d) 62 160 0 [30, 14, 2, 10, 368] L st M) := zEv_step rfl
theorem e187_160 (ph : Bool) (d : Nat) (L st : List zV) (M : zM) : zEv ph d 187 160 L st M = zcont ph d 187 (zstep ph (zEm ph d) 0 162 0 [121] L st M) := zEv_step rfl
theorem e187_162 (ph : Bool) (d : Nat) (L st : List zV) (M : zM) : zEv ph d 187 162 L st M = zcont ph d 187 (zstep ph (zEm ph d) 2 163 0 [1] L st M) := zEv_step rfl
theorem e187_163 (ph : Bool) (d : Nat) (L st : List zV) (M : zM) : zEv ph d 187 163 L st M = zcont ph d 187 (zstep ph (zEm ph d) 10 164 0 [] L st M) := zEv_step rfl
theorem e187_164 (ph : Bool) (d : Nat) (L st : List zV) (M : zM) : zEv ph d 187 164 L st M = zcont ph d 187 (zstep ph (zEm ph d) 0 165 0 [-1] L st M) := zEv_step rfl
theorem e187_165 (ph : Bool) (d : Nat) (L st : List zV) (M : zM) : zEv ph d 187 165 L st M = zcont ph d 187 (zstep ph (zEm ph d) 89 166 0 [] L st M) := zEv_step rfl
theorem e187_166 (ph : Bool) (d : Nat) (L st : List zV) (M : zM) : zEv ph d 187 166 L st M = zcont ph d 187 (zstep ph (zEm ph d) 8 169 0 [1, 1] L st M) := zEv_step rfl
theorem e187_169 (ph : Bool) (d : Nat) (L st : List zV) (M : zM) : zEv ph d 187 169 L st M = zcont ph d 187 (zstep ph (zEm ph d) 52 172 105 [] L st M) := zEv_step rfl
theorem e187_172 (ph : Bool) (d : Nat) (L st : List zV) (M : zM) : zEv ph d 187 172 L st M = zcont ph d 187 (zstep ph (zEm ph d) 83 173 0 [] L st M) := zEv_step rfl
theorem m203 (ph : Bool) (d : Nat) (a x0 : Int) (M : zM) : zEm ph (d + 1) 203 [(30, a, x0)] M = zEv ph d 203 0 [(30, a, x0), (3, 0, 0), (3, 0, 0)] [] M := rfl
theorem e203_0 (ph : Bool) (d : Nat) (L st : List zV) (M : zM) : zEv ph d 203 0 L st M = zcont ph d 203 (zstep ph (zEm ph d) 4 1 0 [0] L st M) := zEv_step rfl
theorem e203_1 (ph : Bool) (d : Nat) (L st : List zV) (M : zM) : zEv ph d 203 1 L st M = zcont ph d 203 (zstep ph (zEm ph d) 0 4 0 [900] L st M) := zEv_step rfl
theorem e203_4 (ph : Bool) (d : Nat) (L st : List zV) (M : zM) : zEv ph d 203 4 L st M = zcont ph d 203 (zstep ph (zEm ph d) 70 7 185 [2, 0, 30] L st M) := zEv_step rfl
theorem e203_7 (ph : Bool) (d : Nat) (L st : List zV) (M : zM) : zEv ph d 203 7 L st M = zcont ph d 203 (zstep ph (zEm ph d) 0 8 0 [0] L st M) := zEv_step rfl
theorem e203_8 (ph : Bool) (d : Nat) (L st : List zV) (M : zM) : zEv ph d 203 8 L st M = zcont ph d 203 (zstep ph (zEm ph d) 5 9 0 [1] L st M) := zEv_step rfl
theorem e203_9 (ph : Bool) (d : Nat) (L st : List zV) (M : zM) : zEv ph d 203 9 L st M = zcont ph d 203 (zstep ph (zEm ph d) 2 10 0 [1] L st M) := zEv_step rfl
theorem e203_10 (ph : Bool) (d : Nat) (L st : List zV) (M : zM) : zEv ph d 203 10 L st M = zcont ph d 203 (zstep ph (zEm ph d) 0 12 0 [75] L st M) := zEv_step rfl
theorem e203_12 (ph : Bool) (d : Nat) (L st : List zV) (M : zM) : zEv ph d 203 12 L st M = zcont ph d 203 (zstep ph (zEm ph d) 49 15 28 [] L st M) := zEv_step rfl
theorem e203_15 (ph : Bool) (d : Nat) (L st : List zV) (M : zM) : zEv ph d 203 15 L st M = zcont ph d 203 (zstep ph (zEm ph d) 4 16 0 [0] L st M) := zEv_step rfl
theorem e203_16 (ph : Bool) (d : Nat) (L st : List zV) (M : zM) : zEv ph d 203 16 L st M = zcont ph d 203 (zstep ph (zEm ph d) 62 19 0 [30, 15, 3, 10, 75] L st M) := zEv_step rfl
theorem e203_19 (ph : Bool) (d : Nat) (L st : List zV) (M : zM) : zEv ph d 203 19 L st M = zcont ph d 203 (zstep ph (zEm ph d) 2 20 0 [1] L st M) := zEv_step rfl
theorem e203_20 (ph : Bool) (d : Nat) (L st : List zV) (M : zM) : zEv ph d 203 20 L st M = zcont ph d 203 (zstep ph (zEm ph d) 0 21 0 [0] L st M) := zEv_step rfl
theorem e203_21 (ph : Bool) (d : Nat) (L st : List zV) (M : zM) : zEv ph d 203 21 L st M = zcont ph d 203 (zstep ph (zEm ph d) 89 22 0 [] L st M) := zEv_step rfl
theorem e203_22 (ph : Bool) (d : Nat) (L st : List zV) (M : zM) : zEv ph d 203 22 L st M = zcont ph d 203 (zstep ph (zEm ph d) 8 25 0 [1, 1] L st M) := zEv_step rfl
theorem e203_25 (ph : Bool) (d : Nat) (L st : List zV) (M : zM) : zEv ph d 203 25 L st M = zcont ph d 203 (zstep ph (zEm ph d) 52 28 9 [] L st M) := zEv_step rfl
theorem e203_28 (ph : Bool) (d : Nat) (L st : List zV) (M : zM) : zEv ph d 203 28 L st M = zcont ph d 203 (zstep ph (zEm ph d) 0 29 0 [0] L st M) := zEv_step rfl
theorem e203_29 (ph : Bool) (d : Nat) (L st : List zV) (M : zM) : zEv ph d 203 29 L st M = zcont ph d 203 (zstep ph (zEm ph d) 5 30 0 [1] L st M) := zEv_step rfl
theorem e203_30 (ph : Bool) (d : Nat) (L st : List zV) (M : zM) : zEv ph d 203 30 L st M = zcont ph d 203 (zstep ph (zEm ph d) 2 31 0 [1] L st M) := zEv_step rfl
theorem e203_31 (ph : Bool) (d : Nat) (L st : List zV) (M : zM) : zEv ph d 203 31 L st M = zcont ph d 203 (zstep ph (zEm ph d) 0 33 0 [6] L st M) := zEv_step rfl
theorem e203_33 (ph : Bool) (d : Nat) (L st : List zV) (M : zM) : zEv ph d 203 33 L st M = zcont ph d 203 (zstep ph (zEm ph d) 49 36 49 [] L st M) := zEv_step rfl
theorem e203_36 (ph : Bool) (d : Nat) (L st : List zV) (M : zM) : zEv ph d 203 36 L st M = zcont ph d 203 (zstep ph (zEm ph d) 4 37 0 [0] L st M) := zEv_step rfl
theorem e203_37 (ph : Bool) (d : Nat) (L st : List zV) (M : zM) : zEv ph d 203 37 L st M = zcont ph d 203 (zstep ph (zEm ph d) 62 40 0 [30, 23, 11, 12, 6] L st M) := zEv_step rfl
theorem e203_40 (ph : Bool) (d : Nat) (L st : List zV) (M : zM) : zEv ph d 203 40 L st M = zcont ph d 203 (zstep ph (zEm ph d) 2 41 0 [1] L st M) := zEv_step rfl
theorem e203_41 (ph : Bool) (d : Nat) (L st : List zV) (M : zM) : zEv ph d 203 41 L st M = zcont ph d 203 (zstep ph (zEm ph d) 0 42 0 [0] L st M) := zEv_step rfl
theorem e203_42 (ph : Bool) (d : Nat) (L st : List zV) (M : zM) : zEv ph d 203 42 L st M = zcont ph d 203 (zstep ph (zEm ph d) 91 43 0 [] L st M) := zEv_step rfl
theorem e203_43 (ph : Bool) (d : Nat) (L st : List zV) (M : zM) : zEv ph d 203 43 L st M = zcont ph d 203 (zstep ph (zEm ph d) 8 46 0 [1, 1] L st M) := zEv_step rfl
theorem e203_46 (ph : Bool) (d : Nat) (L st : List zV) (M : zM) : zEv ph d 203 46 L st M = zcont ph d 203 (zstep ph (zEm ph d) 52 49 30 [] L st M) := zEv_step rfl
theorem e203_49 (ph : Bool) (d : Nat) (L st : List zV) (M : zM) : zEv ph d 203 49 L st M = zcont ph d 203 (zstep ph (zEm ph d) 4 50 0 [0] L st M) := zEv_step rfl
theorem e203_50 (ph : Bool) (d : Nat) (L st : List zV) (M : zM) : zEv ph d 203 50 L st M = zcont ph d 203 (zstep ph (zEm ph d) 62 53 0 [30, 15, 3, 10, 75] L st M) := zEv_step rfl
theorem e203_53 (ph : Bool) (d : Nat) (L st : List zV) (M : zM) : zEv ph d 203 53 L st M = zcont ph d 203 (zstep ph (zEm ph d) 0 54 0 [3] L st M) := zEv_step rfl
theorem e203_54 (ph : Bool) (d : Nat) (L st : List zV) (M : zM) : zEv ph d 203 54 L st M = zcont ph d 203 (zstep ph (zEm ph d) 0 55 0 [2] L st M) := zEv_step rfl
theorem e203_55 (ph : Bool) (d : Nat) (L st : List zV) (M : zM) : zEv ph d 203 55 L st M = zcont ph d 203 (zstep ph (zEm ph d) 89 56 0 [] L st M) := zEv_step rfl
theorem e203_56 (ph : Bool) (d : Nat) (L st : List zV) (M : zM) : zEv ph d 203 56 L st M = zcont ph d 203 (zstep ph (zEm ph d) 4 57 0 [0] L st M) := zEv_step rfl
theorem e203_57 (ph : Bool) (d : Nat) (L st : List zV) (M : zM) : zEv ph d 203 57 L st M = zcont ph d 203 (zstep ph (zEm ph d) 62 60 0 [30, 15, 3, 10, 75] L st M) := zEv_step rfl
theorem e203_60 (ph : Bool) (d : Nat) (L st : List zV) (M : zM) : zEv ph d 203 60 L st M = zcont ph d 203 (zstep ph (zEm ph d) 0 61 0 [4] L st M) := zEv_step rfl
theorem e203_61 (ph : Bool) (d : Nat) (L st : List zV) (M : zM) : zEv ph d 203 61 L st M = zcont ph d 203 (zstep ph (zEm ph d) 0 62 0 [1] L st M) := zEv_step rfl
theorem e203_62 (ph : Bool) (d : Nat) (L st : List zV) (M : zM) : zEv ph d 203 62 L st M = zcont ph d 203 (zstep ph (zEm ph d) 89 63 0 [] L st M) := zEv_step rfl
theorem e203_63 (ph : Bool) (d : Nat) (L st : List zV) (M : zM) : zEv ph d 203 63 L st M = zcont ph d 203 (zstep ph (zEm ph d) 0 64 0 [0] L st M) := zEv_step rfl
theorem e203_64 (ph : Bool) (d : Nat) (L st : List zV) (M : zM) : zEv ph d 203 64 L st M = zcont ph d 203 (zstep ph (zEm ph d) 5 65 0 [1] L st M) := zEv_step rfl
theorem e203_65 (ph : Bool) (d : Nat) (L st : List zV) (M : zM) : zEv ph d 203 65 L st M = zcont ph d 203 (zstep ph (zEm ph d) 4 66 0 [0] L st M) := zEv_step rfl
theorem e203_66 (ph : Bool) (d : Nat) (L st : List zV) (M : zM) : zEv ph d 203 66 L st M = zcont ph d 203 (zstep ph (zEm ph d) 60 69 0 [30, 7] L st M) := zEv_step rfl
theorem e203_69 (ph : Bool) (d : Nat) (L st : List zV) (M : zM) : zEv ph d 203 69 L st M = zcont ph d 203 (zstep ph (zEm ph d) 40 72 99 [] L st M) := zEv_step rfl
theorem e203_72 (ph : Bool) (d : Nat) (L st : List zV) (M : zM) : zEv ph d 203 72 L st M = zcont ph d 203 (zstep ph (zEm ph d) 4 73 0 [0] L st M) := zEv_step rfl
theorem e203_73 (ph : Bool) (d : Nat) (L st : List zV) (M : zM) : zEv ph d 203 73 L st M = zcont ph d 203 (zstep ph (zEm ph d) 70 76 202 [1, 1, 30] L st M) := zEv_step rfl
theorem e203_76 (ph : Bool) (d : Nat) (L st : List zV) (M : zM) : zEv ph d 203 76 L st M = zcont ph d 203 (zstep ph (zEm ph d) 40 79 86 [] L st M) := zEv_step rfl
theorem e203_79 (ph : Bool) (d : Nat) (L st : List zV) (M : zM) : zEv ph d 203 79 L st M = zcont ph d 203 (zstep ph (zEm ph d) 4 80 0 [0] L st M) := zEv_step rfl
theorem e203_80 (ph : Bool) (d : Nat) (L st : List zV) (M : zM) : zEv ph d 203 80 L st M = zcont ph d 203 (zstep ph (zEm ph d) 70 83 184 [1, 1, 30] L st M) := zEv_step rfl
theorem e203_83 (ph : Bool) (d : Nat) (L st : List zV) (M : zM) : zEv ph d 203 83 L st M = zcont ph d 203 (zstep ph (zEm ph d) 41 86 93 [] L st M) := zEv_step rfl
theorem e203_86 (ph : Bool) (d : Nat) (L st : List zV) (M : zM) : zEv ph d 203 86 L st M = zcont ph d 203 (zstep ph (zEm ph d) 0 87 0 [-1] L st M) := zEv_step rfl
theorem e203_87 (ph : Bool) (d : Nat) (L st : List zV) (M : zM) : zEv ph d 203 87 L st M = zcont ph d 203 (zstep ph (zEm ph d) 4 88 0 [0] L st M) := zEv_step rfl
theorem e203_88 (ph : Bool) (d : Nat) (L st : List zV) (M : zM) : zEv ph d 203 88 L st M = zcont ph d 203 (zstep ph (zEm ph d) 60 91 0 [30, 11] L st M) := zEv_step rfl
theorem e203_91 (ph : Bool) (d : Nat) (L st : List zV) (M : zM) : zEv ph d 203 91 L st M = zcont ph d 203 (zstep ph (zEm ph d) 11 92 0 [] L st M) := zEv_step rfl
theorem e203_92 (ph : Bool) (d : Nat) (L st : List zV) (M : zM) : zEv ph d 203 92 L st M = zcont ph d 203 (zstep ph (zEm ph d) 80 93 0 [] L st M) := zEv_step rfl
theorem e203_93 (ph : Bool) (d : Nat) (L st : List zV) (M : zM) : zEv ph d 203 93 L st M = zcont ph d 203 (zstep ph (zEm ph d) 8 96 0 [1, 1] L st M) := zEv_step rfl
theorem e203_96 (ph : Bool) (d : Nat) (L st : List zV) (M : zM) : zEv ph d 203 96 L st M = zcont ph d 203 (zstep ph (zEm ph d) 52 99 65 [] L st M) := zEv_step rfl
theorem e203_99 (ph : Bool) (d : Nat) (L st : List zV) (M : zM) : zEv ph d 203 99 L st M = zcont ph d 203 (zstep ph (zEm ph d) 0 100 0 [0] L st M) := zEv_step rfl
theorem e203_100 (ph : Bool) (d : Nat) (L st : List zV) (M : zM) : zEv ph d 203 100 L st M = zcont ph d 203 (zstep ph (zEm ph d) 5 101 0 [2] L st M) := zEv_step rfl
theorem e203_101 (ph : Bool) (d : Nat) (L st : List zV) (M : zM) : zEv ph d 203 101 L st M = zcont ph d 203 (zstep ph (zEm ph d) 2 102 0 [2] L st M) := zEv_step rfl
theorem e203_102 (ph : Bool) (d : Nat) (L st : List zV) (M : zM) : zEv ph d 203 102 L st M = zcont ph d 203 (zstep ph (zEm ph d) 0 104 0 [75] L st M) := zEv_step rfl
theorem e203_104 (ph : Bool) (d : Nat) (L st : List zV) (M : zM) : zEv ph d 203 104 L st M = zcont ph d 203 (zstep ph (zEm ph d) 49 107 125 [] L st M) := zEv_step rfl
theorem e203_107 (ph : Bool) (d : Nat) (L st : List zV) (M : zM) : zEv ph d 203 107 L st M = zcont ph d 203 (zstep ph (zEm ph d) 4 108 0 [0] L st M) := zEv_step rfl
theorem e203_108 (ph : Bool) (d : Nat) (L st : List zV) (M : zM) : zEv ph d 203 108 L st M = zcont ph d 203 (zstep ph (zEm ph d) 62 111 0 [30, 14, 2, 10, 368] L st M) := zEv_step rfl
theorem e203_111 (ph : Bool) (d : Nat) (L st : List zV) (M : zM) : zEv ph d 203 111 L st M = zcont ph d 203 (zstep ph (zEm ph d) 2 112 0 [2] L st M) := zEv_step rfl
theorem e203_112 (ph : Bool) (d : Nat) (L st : List zV) (M : zM) : zEv ph d 203 112 L st M = zcont ph d 203 (zstep ph (zEm ph d) 4 113 0 [0] L st M) := zEv_step rfl
theorem e203_113 (ph : Bool) (d : Nat) (L st : List zV) (M : zM) : zEv ph d 203 113 L st M = zcont ph d 203 (zstep ph (zEm ph d) 62 116 0 [30, 15, 3, 10, 75] L st M) := zEv_step rfl
theorem e203_116 (ph : Bool) (d : Nat) (L st : List zV) (M : zM) : zEv ph d 203 116 L st M = zcont ph d 203 (zstep ph (zEm ph d) 2 117 0 [2] L st M) := zEv_step rfl
theorem e203_117 (ph : Bool) (d : Nat) (L st : List zV) (M : zM) : zEv ph d 203 117 L st M = zcont ph d 203 (zstep ph (zEm ph d) 85 118 0 [] L st M) := zEv_step rfl
theorem e203_118 (ph : Bool) (d : Nat) (L st : List zV) (M : zM) : zEv ph d 203 118 L st M = zcont ph d 203 (zstep ph (zEm ph d) 89 119 0 [] L st M) := zEv_step rfl
theorem e203_119 (ph : Bool) (d : Nat) (L st : List zV) (M : zM) : zEv ph d 203 119 L st M = zcont ph d 203 (zstep ph (zEm ph d) 8 122 0 [2, 1] L st M) := zEv_step rfl
theorem e203_122 (ph : Bool) (d : Nat) (L st : List zV) (M : zM) : zEv ph d 203 122 L st M = zcont ph d 203 (zstep ph (zEm ph d) 52 125 101 [] L st M) := zEv_step rfl
theorem e203_125 (ph : Bool) (d : Nat) (L st : List zV) (M : zM) : zEv ph d 203 125 L st M = zcont ph d 203 (zstep ph (zEm ph d) 0 126 0 [0] L st M) := zEv_step rfl
theorem e203_126 (ph : Bool) (d : Nat) (L st : List zV) (M : zM) : zEv ph d 203 126 L st M = zcont ph d 203 (zstep ph (zEm ph d) 5 127 0 [2] L st M) := zEv_step rfl
theorem e203_127 (ph : Bool) (d : Nat) (L st : List zV) (M : zM) : zEv ph d 203 127 L st M = zcont ph d 203 (zstep ph (zEm ph d) 2 128 0 [2] L st M) := zEv_step rfl
theorem e203_128 (ph : Bool) (d : Nat) (L st : List zV) (M : zM) : zEv ph d 203 128 L st M = zcont ph d 203 (zstep ph (zEm ph d) 0 130 0 [20] L st M) := zEv_step rfl
theorem e203_130 (ph : Bool) (d : Nat) (L st : List zV) (M : zM) : zEv ph d 203 130 L st M = zcont ph d 203 (zstep ph (zEm ph d) 49 133 151 [] L st M) := zEv_step rfl
theorem e203_133 (ph : Bool) (d : Nat) (L st : List zV) (M : zM) : zEv ph d 203 133 L st M = zcont ph d 203 (zstep ph (zEm ph d) 4 134 0 [0] L st M) := zEv_step rfl
theorem e203_134 (ph : Bool) (d : Nat) (L st : List zV) (M : zM) : zEv ph d 203 134 L st M = zcont ph d 203 (zstep ph (zEm ph d) 62 137 0 [30, 19, 7, 11, 20] L st M) := zEv_step rfl
theorem e203_137 (ph : Bool) (d : Nat) (L st : List zV) (M : zM) : zEv ph d 203 137 L st M = zcont ph d 203 (zstep ph (zEm ph d) 2 138 0 [2] L st M) := zEv_step rfl
theorem e203_138 (ph : Bool) (d : Nat) (L st : List zV) (M : zM) : zEv ph d 203 138 L st M = zcont ph d 203 (zstep ph (zEm ph d) 4 139 0 [0] L st M) := zEv_step rfl
theorem e203_139 (ph : Bool) (d : Nat) (L st : List zV) (M : zM) : zEv ph d 203 139 L st M = zcont ph d 203 (zstep ph (zEm ph d) 62 142 0 [30, 20, 8, 11, 20] L st M) := zEv_step rfl
theorem e203_142 (ph : Bool) (d : Nat) (L st : List zV) (M : zM) : zEv ph d 203 142 L st M = zcont ph d 203 (zstep ph (zEm ph d) 2 143 0 [2] L st M) := zEv_step rfl
theorem e203_143 (ph : Bool) (d : Nat) (L st : List zV) (M : zM) : zEv ph d 203 143 L st M = zcont ph d 203 (zstep ph (zEm ph d) 86 144 0 [] L st M) := zEv_step rfl
theorem e203_144 (ph : Bool) (d : Nat) (L st : List zV) (M : zM) : zEv ph d 203 144 L st M = zcont ph d 203 (zstep ph (zEm ph d) 90 145 0 [] L st M) := zEv_step rfl
theorem e203_145 (ph : Bool) (d : Nat) (L st : List zV) (M : zM) : zEv ph d 203 145 L st M = zcont ph d 203 (zstep ph (zEm ph d) 8 148 0 [2, 1] L st M) := zEv_step rfl
theorem e203_148 (ph : Bool) (d : Nat) (L st : List zV) (M : zM) : zEv ph d 203 148 L st M = zcont ph d 203 (zstep ph (zEm ph d) 52 151 127 [] L st M) := zEv_step rfl
theorem e203_151 (ph : Bool) (d : Nat) (L st : List zV) (M : zM) : zEv ph d 203 151 L st M = zcont ph d 203 (zstep ph (zEm ph d) 4 152 0 [0] L st M) := zEv_step rfl
theorem e203_152 (ph : Bool) (d : Nat) (L st : List zV) (M : zM) : zEv ph d 203 152 L st M = zcont ph d 203 (zstep ph (zEm ph d) 70 155 187 [1, 0, 30] L st M) := zEv_step rfl
theorem e203_155 (ph : Bool) (d : Nat) (L st : List zV) (M : zM) : zEv ph d 203 155 L st M = zcont ph d 203 (zstep ph (zEm ph d) 4 156 0 [0] L st M) := zEv_step rfl
theorem e203_156 (ph : Bool) (d : Nat) (L st : List zV) (M : zM) : zEv ph d 203 156 L st M = zcont ph d 203 (zstep ph (zEm ph d) 0 157 0 [0] L st M) := zEv_step rfl
theorem e203_157 (ph : Bool) (d : Nat) (L st : List zV) (M : zM) : zEv ph d 203 157 L st M = zcont ph d 203 (zstep ph (zEm ph d) 65 160 0 [30, 24] L st M) := zEv_step rfl
theorem e203_160 (ph : Bool) (d : Nat) (L st : List zV) (M : zM) : zEv ph d 203 160 L st M = zcont ph d 203 (zstep ph (zEm ph d) 2 161 0 [1] L st M) := zEv_step rfl
theorem e203_161 (ph : Bool) (d : Nat) (L st : List zV) (M : zM) : zEv ph d 203 161 L st M = zcont ph d 203 (zstep ph (zEm ph d) 80 162 0 [] L st M) := zEv_step rfl
theorem m79 (ph : Bool) (d : Nat) (a x0 : Int) (M : zM) : zEm ph (d + 1) 79 [(24, a, x0)] M = zEv ph d 79 0 [(24, a, x0), (3, 0, 0)] [] M := rfl
theorem e79_0 (ph : Bool) (d : Nat) (L st : List zV) (M : zM) : zEv ph d 79 0 L st M = zcont ph d 79 (zstep ph (zEm ph d) 4 1 0 [0] L st M) := zEv_step rfl
theorem e79_1 (ph : Bool) (d : Nat) (L st : List zV) (M : zM) : zEv ph d 79 1 L st M = zcont ph d 79 (zstep ph (zEm ph d) 62 4 0 [24, 1, 3, 28, 0] L st M) := zEv_step rfl
theorem e79_4 (ph : Bool) (d : Nat) (L st : List zV) (M : zM) : zEv ph d 79 4 L st M = zcont ph d 79 (zstep ph (zEm ph d) 70 7 152 [1, 0, 28] L st M) := zEv_step rfl
theorem e79_7 (ph : Bool) (d : Nat) (L st : List zV) (M : zM) : zEv ph d 79 7 L st M = zcont ph d 79 (zstep ph (zEm ph d) 4 8 0 [0] L st M) := zEv_step rfl
theorem e79_8 (ph : Bool) (d : Nat) (L st : List zV) (M : zM) : zEv ph d 79 8 L st M = zcont ph d 79 (zstep ph (zEm ph d) 62 11 0 [24, 2, 10, 26, 0] L st M) := zEv_step rfl
theorem e79_11 (ph : Bool) (d : Nat) (L st : List zV) (M : zM) : zEv ph d 79 11 L st M = zcont ph d 79 (zstep ph (zEm ph d) 70 14 112 [1, 0, 26] L st M) := zEv_step rfl
theorem e79_14 (ph : Bool) (d : Nat) (L st : List zV) (M : zM) : zEv ph d 79 14 L st M = zcont ph d 79 (zstep ph (zEm ph d) 4 15 0 [0] L st M) := zEv_step rfl
theorem e79_15 (ph : Bool) (d : Nat) (L st : List zV) (M : zM) : zEv ph d 79 15 L st M = zcont ph d 79 (zstep ph (zEm ph d) 0 16 0 [0] L st M) := zEv_step rfl
theorem e79_16 (ph : Bool) (d : Nat) (L st : List zV) (M : zM) : zEv ph d 79 16 L st M = zcont ph d 79 (zstep ph (zEm ph d) 65 19 0 [24, 5] L st M) := zEv_step rfl
theorem e79_19 (ph : Bool) (d : Nat) (L st : List zV) (M : zM) : zEv ph d 79 19 L st M = zcont ph d 79 (zstep ph (zEm ph d) 4 20 0 [0] L st M) := zEv_step rfl
theorem e79_20 (ph : Bool) (d : Nat) (L st : List zV) (M : zM) : zEv ph d 79 20 L st M = zcont ph d 79 (zstep ph (zEm ph d) 62 23 0 [24, 0, 1, 27, 0] L st M) := zEv_step rfl
theorem e79_23 (ph : Bool) (d : Nat) (L st : List zV) (M : zM) : zEv ph d 79 23 L st M = zcont ph d 79 (zstep ph (zEm ph d) 0 26 0 [900] L st M) := zEv_step rfl
theorem e79_26 (ph : Bool) (d : Nat) (L st : List zV) (M : zM) : zEv ph d 79 26 L st M = zcont ph d 79 (zstep ph (zEm ph d) 70 29 137 [2, 0, 27] L st M) := zEv_step rfl
theorem e79_29 (ph : Bool) (d : Nat) (L st : List zV) (M : zM) : zEv ph d 79 29 L st M = zcont ph d 79 (zstep ph (zEm ph d) 0 30 0 [0] L st M) := zEv_step rfl
theorem e79_30 (ph : Bool) (d : Nat) (L st : List zV) (M : zM) : zEv ph d 79 30 L st M = zcont ph d 79 (zstep ph (zEm ph d) 5 31 0 [1] L st M) := zEv_step rfl
theorem e79_31 (ph : Bool) (d : Nat) (L st : List zV) (M : zM) : zEv ph d 79 31 L st M = zcont ph d 79 (zstep ph (zEm ph d) 2 32 0 [1] L st M) := zEv_step rfl
theorem e79_32 (ph : Bool) (d : Nat) (L st : List zV) (M : zM) : zEv ph d 79 32 L st M = zcont ph d 79 (zstep ph (zEm ph d) 0 35 0 [900] L st M) := zEv_step rfl
theorem e79_35 (ph : Bool) (d : Nat) (L st : List zV) (M : zM) : zEv ph d 79 35 L st M = zcont ph d 79 (zstep ph (zEm ph d) 50 38 75 [] L st M) := zEv_step rfl
theorem e79_38 (ph : Bool) (d : Nat) (L st : List zV) (M : zM) : zEv ph d 79 38 L st M = zcont ph d 79 (zstep ph (zEm ph d) 4 39 0 [0] L st M) := zEv_step rfl
theorem e79_39 (ph : Bool) (d : Nat) (L st : List zV) (M : zM) : zEv ph d 79 39 L st M = zcont ph d 79 (zstep ph (zEm ph d) 62 42 0 [24, 0, 1, 27, 0] L st M) := zEv_step rfl
theorem e79_42 (ph : Bool) (d : Nat) (L st : List zV) (M : zM) : zEv ph d 79 42 L st M = zcont ph d 79 (zstep ph (zEm ph d) 70 45 138 [1, 1, 27] L st M) := zEv_step rfl
theorem e79_45 (ph : Bool) (d : Nat) (L st : List zV) (M : zM) : zEv ph d 79 45 L st M = zcont ph d 79 (zstep ph (zEm ph d) 41 48 75 [] L st M) := zEv_step rfl
theorem e79_48 (ph : Bool) (d : Nat) (L st : List zV) (M : zM) : zEv ph d 79 48 L st M = zcont ph d 79 (zstep ph (zEm ph d) 4 49 0 [0] L st M) := zEv_step rfl
theorem e79_49 (ph : Bool) (d : Nat) (L st : List zV) (M : zM) : zEv ph d 79 49 L st M = zcont ph d 79 (zstep ph (zEm ph d) 70 52 80 [1, 1, 24] L st M) := zEv_step rfl
theorem e79_52 (ph : Bool) (d : Nat) (L st : List zV) (M : zM) : zEv ph d 79 52 L st M = zcont ph d 79 (zstep ph (zEm ph d) 40 55 67 [] L st M) := zEv_step rfl
theorem e79_55 (ph : Bool) (d : Nat) (L st : List zV) (M : zM) : zEv ph d 79 55 L st M = zcont ph d 79 (zstep ph (zEm ph d) 4 56 0 [0] L st M) := zEv_step rfl
theorem e79_56 (ph : Bool) (d : Nat) (L st : List zV) (M : zM) : zEv ph d 79 56 L st M = zcont ph d 79 (zstep ph (zEm ph d) 62 59 0 [24, 0, 1, 27, 0] L st M) := zEv_step rfl
theorem e79_59 (ph : Bool) (d : Nat) (L st : List zV) (M : zM) : zEv ph d 79 59 L st M = zcont ph d 79 (zstep ph (zEm ph d) 0 61 0 [59] L st M) := zEv_step rfl
theorem e79_61 (ph : Bool) (d : Nat) (L st : List zV) (M : zM) : zEv ph d 79 61 L st M = zcont ph d 79 (zstep ph (zEm ph d) 70 64 145 [2, 1, 27] L st M) := zEv_step rfl
theorem e79_64 (ph : Bool) (d : Nat) (L st : List zV) (M : zM) : zEv ph d 79 64 L st M = zcont ph d 79 (zstep ph (zEm ph d) 41 67 69 [] L st M) := zEv_step rfl
theorem e79_67 (ph : Bool) (d : Nat) (L st : List zV) (M : zM) : zEv ph d 79 67 L st M = zcont ph d 79 (zstep ph (zEm ph d) 0 68 0 [-1] L st M) := zEv_step rfl
theorem e79_68 (ph : Bool) (d : Nat) (L st : List zV) (M : zM) : zEv ph d 79 68 L st M = zcont ph d 79 (zstep ph (zEm ph d) 80 69 0 [] L st M) := zEv_step rfl
theorem e79_69 (ph : Bool) (d : Nat) (L st : List zV) (M : zM) : zEv ph d 79 69 L st M = zcont ph d 79 (zstep ph (zEm ph d) 8 72 0 [1, 1] L st M) := zEv_step rfl
theorem e79_72 (ph : Bool) (d : Nat) (L st : List zV) (M : zM) : zEv ph d 79 72 L st M = zcont ph d 79 (zstep ph (zEm ph d) 52 75 31 [] L st M) := zEv_step rfl
theorem e79_75 (ph : Bool) (d : Nat) (L st : List zV) (M : zM) : zEv ph d 79 75 L st M = zcont ph d 79 (zstep ph (zEm ph d) 4 76 0 [0] L st M) := zEv_step rfl
theorem e79_76 (ph : Bool) (d : Nat) (L st : List zV) (M : zM) : zEv ph d 79 76 L st M = zcont ph d 79 (zstep ph (zEm ph d) 62 79 0 [24, 0, 1, 27, 0] L st M) := zEv_step rfl
theorem e79_79 (ph : Bool) (d : Nat) (L st : List zV) (M : zM) : zEv ph d 79 79 L st M = zcont ph d 79 (zstep ph (zEm ph d) 70 82 139 [1, 1, 27] L st M) := zEv_step rfl
theorem e79_82 (ph : Bool) (d : Nat) (L st : List zV) (M : zM) : zEv ph d 79 82 L st M = zcont ph d 79 (zstep ph (zEm ph d) 40 85 89 [] L st M) := zEv_step rfl
theorem e79_85 (ph : Bool) (d : Nat) (L st : List zV) (M : zM) : zEv ph d 79 85 L st M = zcont ph d 79 (zstep ph (zEm ph d) 2 86 0 [1] L st M) := zEv_step rfl
theorem e79_86 (ph : Bool) (d : Nat) (L st : List zV) (M : zM) : zEv ph d 79 86 L st M = zcont ph d 79 (zstep ph (zEm ph d) 52 89 90 [] L st M) := zEv_step rfl
theorem e79_89 (ph : Bool) (d : Nat) (L st : List zV) (M : zM) : zEv ph d 79 89 L st M = zcont ph d 79 (zstep ph (zEm ph d) 0 90 0 [-1] L st M) := zEv_step rfl
theorem e79_90 (ph : Bool) (d : Nat) (L st : List zV) (M : zM) : zEv ph d 79 90 L st M = zcont ph d 79 (zstep ph (zEm ph d) 80 91 0 [] L st M) := zEv_step rfl
theorem m3 (ph : Bool) (d : Nat) (a x0 : Int) (M : zM) : zEm ph (d + 1) 3 [(29, a, x0)] M = zEv ph d 3 0 [(29, a, x0), (3, 0, 0)] [] M := rfl
theorem e3_0 (ph : Bool) (d : Nat) (L st : List zV) (M : zM) : zEv ph d 3 0 L st M = zcont ph d 3 (zstep ph (zEm ph d) 4 1 0 [0] L st M) := zEv_step rfl
theorem e3_1 (ph : Bool) (d : Nat) (L st : List zV) (M : zM) : zEv ph d 3 1 L st M = zcont ph d 3 (zstep ph (zEm ph d) 62 4 0 [29, 0, 1, 24, 0] L st M) := zEv_step rfl
theorem e3_4 (ph : Bool) (d : Nat) (L st : List zV) (M : zM) : zEv ph d 3 4 L st M = zcont ph d 3 (zstep ph (zEm ph d) 70 7 79 [1, 1, 24] L st M) := zEv_step rfl
theorem e3_7 (ph : Bool) (d : Nat) (L st : List zV) (M : zM) : zEv ph d 3 7 L st M = zcont ph d 3 (zstep ph (zEm ph d) 5 8 0 [1] L st M) := zEv_step rfl
theorem e3_8 (ph : Bool) (d : Nat) (L st : List zV) (M : zM) : zEv ph d 3 8 L st M = zcont ph d 3 (zstep ph (zEm ph d) 4 9 0 [0] L st M) := zEv_step rfl
theorem e3_9 (ph : Bool) (d : Nat) (L st : List zV) (M : zM) : zEv ph d 3 9 L st M = zcont ph d 3 (zstep ph (zEm ph d) 62 12 0 [29, 1, 2, 27, 0] L st M) := zEv_step rfl
theorem e3_12 (ph : Bool) (d : Nat) (L st : List zV) (M : zM) : zEv ph d 3 12 L st M = zcont ph d 3 (zstep ph (zEm ph d) 0 13 0 [0] L st M) := zEv_step rfl
theorem e3_13 (ph : Bool) (d : Nat) (L st : List zV) (M : zM) : zEv ph d 3 13 L st M = zcont ph d 3 (zstep ph (zEm ph d) 65 16 0 [27, 1] L st M) := zEv_step rfl
theorem e3_16 (ph : Bool) (d : Nat) (L st : List zV) (M : zM) : zEv ph d 3 16 L st M = zcont ph d 3 (zstep ph (zEm ph d) 4 17 0 [0] L st M) := zEv_step rfl
theorem e3_17 (ph : Bool) (d : Nat) (L st : List zV) (M : zM) : zEv ph d 3 17 L st M = zcont ph d 3 (zstep ph (zEm ph d) 62 20 0 [29, 5, 51, 22, 0] L st M) := zEv_step rfl
theorem e3_20 (ph : Bool) (d : Nat) (L st : List zV) (M : zM) : zEv ph d 3 20 L st M = zcont ph d 3 (zstep ph (zEm ph d) 4 21 0 [0] L st M) := zEv_step rfl
theorem e3_21 (ph : Bool) (d : Nat) (L st : List zV) (M : zM) : zEv ph d 3 21 L st M = zcont ph d 3 (zstep ph (zEm ph d) 62 24 0 [29, 1, 2, 27, 0] L st M) := zEv_step rfl
theorem e3_24 (ph : Bool) (d : Nat) (L st : List zV) (M : zM) : zEv ph d 3 24 L st M = zcont ph d 3 (zstep ph (zEm ph d) 60 27 0 [27, 10] L st M) := zEv_step rfl
theorem e3_27 (ph : Bool) (d : Nat) (L st : List zV) (M : zM) : zEv ph d 3 27 L st M = zcont ph d 3 (zstep ph (zEm ph d) 65 30 0 [22, 0] L st M) := zEv_step rfl
theorem e3_30 (ph : Bool) (d : Nat) (L st : List zV) (M : zM) : zEv ph d 3 30 L st M = zcont ph d 3 (zstep ph (zEm ph d) 2 31 0 [1] L st M) := zEv_step rfl
theorem e3_31 (ph : Bool) (d : Nat) (L st : List zV) (M : zM) : zEv ph d 3 31 L st M = zcont ph d 3 (zstep ph (zEm ph d) 43 34 44 [] L st M) := zEv_step rfl
theorem e3_34 (ph : Bool) (d : Nat) (L st : List zV) (M : zM) : zEv ph d 3 34 L st M = zcont ph d 3 (zstep ph (zEm ph d) 0 35 0 [-1] L st M) := zEv_step rfl
theorem e3_35 (ph : Bool) (d : Nat) (L st : List zV) (M : zM) : zEv ph d 3 35 L st M = zcont ph d 3 (zstep ph (zEm ph d) 4 36 0 [0] L st M) := zEv_step rfl
theorem e3_36 (ph : Bool) (d : Nat) (L st : List zV) (M : zM) : zEv ph d 3 36 L st M = zcont ph d 3 (zstep ph (zEm ph d) 62 39 0 [29, 1, 2, 27, 0] L st M) := zEv_step rfl
theorem e3_39 (ph : Bool) (d : Nat) (L st : List zV) (M : zM) : zEv ph d 3 39 L st M = zcont ph d 3 (zstep ph (zEm ph d) 60 42 0 [27, 11] L st M) := zEv_step rfl
theorem e3_42 (ph : Bool) (d : Nat) (L st : List zV) (M : zM) : zEv ph d 3 42 L st M = zcont ph d 3 (zstep ph (zEm ph d) 11 43 0 [] L st M) := zEv_step rfl
theorem e3_43 (ph : Bool) (d : Nat) (L st : List zV) (M : zM) : zEv ph d 3 43 L st M = zcont ph d 3 (zstep ph (zEm ph d) 80 44 0 [] L st M) := zEv_step rfl
theorem e3_44 (ph : Bool) (d : Nat) (L st : List zV) (M : zM) : zEv ph d 3 44 L st M = zcont ph d 3 (zstep ph (zEm ph d) 4 45 0 [0] L st M) := zEv_step rfl
theorem e3_45 (ph : Bool) (d : Nat) (L st : List zV) (M : zM) : zEv ph d 3 45 L st M = zcont ph d 3 (zstep ph (zEm ph d) 62 48 0 [29, 2, 30, 28, 0] L st M) := zEv_step rfl
theorem e3_48 (ph : Bool) (d : Nat) (L st : List zV) (M : zM) : zEv ph d 3 48 L st M = zcont ph d 3 (zstep ph (zEm ph d) 4 49 0 [0] L st M) := zEv_step rfl
theorem e3_49 (ph : Bool) (d : Nat) (L st : List zV) (M : zM) : zEv ph d 3 49 L st M = zcont ph d 3 (zstep ph (zEm ph d) 62 52 0 [29, 0, 1, 24, 0] L st M) := zEv_step rfl
theorem e3_52 (ph : Bool) (d : Nat) (L st : List zV) (M : zM) : zEv ph d 3 52 L st M = zcont ph d 3 (zstep ph (zEm ph d) 62 55 0 [24, 1, 3, 28, 0] L st M) := zEv_step rfl
theorem e3_55 (ph : Bool) (d : Nat) (L st : List zV) (M : zM) : zEv ph d 3 55 L st M = zcont ph d 3 (zstep ph (zEm ph d) 70 58 153 [2, 0, 28] L st M) := zEv_step rfl
theorem e3_58 (ph : Bool) (d : Nat) (L st : List zV) (M : zM) : zEv ph d 3 58 L st M = zcont ph d 3 (zstep ph (zEm ph d) 4 59 0 [0] L st M) := zEv_step rfl
theorem e3_59 (ph : Bool) (d : Nat) (L st : List zV) (M : zM) : zEv ph d 3 59 L st M = zcont ph d 3 (zstep ph (zEm ph d) 62 62 0 [29, 3, 37, 26, 0] L st M) := zEv_step rfl
theorem e3_62 (ph : Bool) (d : Nat) (L st : List zV) (M : zM) : zEv ph d 3 62 L st M = zcont ph d 3 (zstep ph (zEm ph d) 4 63 0 [0] L st M) := zEv_step rfl
theorem e3_63 (ph : Bool) (d : Nat) (L st : List zV) (M : zM) : zEv ph d 3 63 L st M = zcont ph d 3 (zstep ph (zEm ph d) 62 66 0 [29, 0, 1, 24, 0] L st M) := zEv_step rfl
theorem e3_66 (ph : Bool) (d : Nat) (L st : List zV) (M : zM) : zEv ph d 3 66 L st M = zcont ph d 3 (zstep ph (zEm ph d) 62 69 0 [24, 2, 10, 26, 0] L st M) := zEv_step rfl
theorem e3_69 (ph : Bool) (d : Nat) (L st : List zV) (M : zM) : zEv ph d 3 69 L st M = zcont ph d 3 (zstep ph (zEm ph d) 70 72 113 [2, 0, 26] L st M) := zEv_step rfl
theorem e3_72 (ph : Bool) (d : Nat) (L st : List zV) (M : zM) : zEv ph d 3 72 L st M = zcont ph d 3 (zstep ph (zEm ph d) 4 73 0 [0] L st M) := zEv_step rfl
theorem e3_73 (ph : Bool) (d : Nat) (L st : List zV) (M : zM) : zEv ph d 3 73 L st M = zcont ph d 3 (zstep ph (zEm ph d) 62 76 0 [29, 4, 46, 25, 0] L st M) := zEv_step rfl
theorem e3_76 (ph : Bool) (d : Nat) (L st : List zV) (M : zM) : zEv ph d 3 76 L st M = zcont ph d 3 (zstep ph (zEm ph d) 70 79 104 [1, 0, 25] L st M) := zEv_step rfl
theorem e3_79 (ph : Bool) (d : Nat) (L st : List zV) (M : zM) : zEv ph d 3 79 L st M = zcont ph d 3 (zstep ph (zEm ph d) 4 80 0 [0] L st M) := zEv_step rfl
theorem e3_80 (ph : Bool) (d : Nat) (L st : List zV) (M : zM) : zEv ph d 3 80 L st M = zcont ph d 3 (zstep ph (zEm ph d) 0 81 0 [0] L st M) := zEv_step rfl
theorem e3_81 (ph : Bool) (d : Nat) (L st : List zV) (M : zM) : zEv ph d 3 81 L st M = zcont ph d 3 (zstep ph (zEm ph d) 65 84 0 [29, 13] L st M) := zEv_step rfl
theorem e3_84 (ph : Bool) (d : Nat) (L st : List zV) (M : zM) : zEv ph d 3 84 L st M = zcont ph d 3 (zstep ph (zEm ph d) 2 85 0 [1] L st M) := zEv_step rfl
theorem e3_85 (ph : Bool) (d : Nat) (L st : List zV) (M : zM) : zEv ph d 3 85 L st M = zcont ph d 3 (zstep ph (zEm ph d) 80 86 0 [] L st M) := zEv_step rfl
theorem m185 (ph : Bool) (d : Nat) (a x0 p0 y0 : Int) (M : zM) : zEm ph (d + 1) 185 [(30, a, x0), (0, p0, y0)] M = zEv ph d 185 0 [(30, a, x0), (0, p0, y0)] [] M := rfl
theorem e185_0 (ph : Bool) (d : Nat) (L st : List zV) (M : zM) : zEv ph d 185 0 L st M = zcont ph d 185 (zstep ph (zEm ph d) 4 1 0 [0] L st M) := zEv_step rfl
theorem e185_1 (ph : Bool) (d : Nat) (L st : List zV) (M : zM) : zEv ph d 185 1 L st M = zcont ph d 185 (zstep ph (zEm ph d) 0 2 0 [0] L st M) := zEv_step rfl
theorem e185_2 (ph : Bool) (d : Nat) (L st : List zV) (M : zM) : zEv ph d 185 2 L st M = zcont ph d 185 (zstep ph (zEm ph d) 65 5 0 [30, 0] L st M) := zEv_step rfl
theorem e185_5 (ph : Bool) (d : Nat) (L st : List zV) (M : zM) : zEv ph d 185 5 L st M = zcont ph d 185 (zstep ph (zEm ph d) 4 6 0 [0] L st M) := zEv_step rfl
theorem e185_6 (ph : Bool) (d : Nat) (L st : List zV) (M : zM) : zEv ph d 185 6 L st M = zcont ph d 185 (zstep ph (zEm ph d) 4 7 0 [0] L st M) := zEv_step rfl
theorem e185_7 (ph : Bool) (d : Nat) (L st : List zV) (M : zM) : zEv ph d 185 7 L st M = zcont ph d 185 (zstep ph (zEm ph d) 70 10 167 [1, 1, 30] L st M) := zEv_step rfl
theorem e185_10 (ph : Bool) (d : Nat) (L st : List zV) (M : zM) : zEv ph d 185 10 L st M = zcont ph d 185 (zstep ph (zEm ph d) 65 13 0 [30, 3] L st M) := zEv_step rfl
theorem e185_13 (ph : Bool) (d : Nat) (L st : List zV) (M : zM) : zEv ph d 185 13 L st M = zcont ph d 185 (zstep ph (zEm ph d) 4 14 0 [0] L st M) := zEv_step rfl
theorem e185_14 (ph : Bool) (d : Nat) (L st : List zV) (M : zM) : zEv ph d 185 14 L st M = zcont ph d 185 (zstep ph (zEm ph d) 2 15 0 [1] L st M) := zEv_step rfl
theorem e185_15 (ph : Bool) (d : Nat) (L st : List zV) (M : zM) : zEv ph d 185 15 L st M = zcont ph d 185 (zstep ph (zEm ph d) 65 18 0 [30, 4] L st M) := zEv_step rfl
theorem e185_18 (ph : Bool) (d : Nat) (L st : List zV) (M : zM) : zEv ph d 185 18 L st M = zcont ph d 185 (zstep ph (zEm ph d) 4 19 0 [0] L st M) := zEv_step rfl
theorem e185_19 (ph : Bool) (d : Nat) (L st : List zV) (M : zM) : zEv ph d 185 19 L st M = zcont ph d 185 (zstep ph (zEm ph d) 0 20 0 [0] L st M) := zEv_step rfl
theorem e185_20 (ph : Bool) (d : Nat) (L st : List zV) (M : zM) : zEv ph d 185 20 L st M = zcont ph d 185 (zstep ph (zEm ph d) 65 23 0 [30, 10] L st M) := zEv_step rfl
theorem e185_23 (ph : Bool) (d : Nat) (L st : List zV) (M : zM) : zEv ph d 185 23 L st M = zcont ph d 185 (zstep ph (zEm ph d) 4 24 0 [0] L st M) := zEv_step rfl
theorem e185_24 (ph : Bool) (d : Nat) (L st : List zV) (M : zM) : zEv ph d 185 24 L st M = zcont ph d 185 (zstep ph (zEm ph d) 0 25 0 [0] L st M) := zEv_step rfl
theorem e185_25 (ph : Bool) (d : Nat) (L st : List zV) (M : zM) : zEv ph d 185 25 L st M = zcont ph d 185 (zstep ph (zEm ph d) 65 28 0 [30, 5] L st M) := zEv_step rfl
theorem e185_28 (ph : Bool) (d : Nat) (L st : List zV) (M : zM) : zEv ph d 185 28 L st M = zcont ph d 185 (zstep ph (zEm ph d) 4 29 0 [0] L st M) := zEv_step rfl
theorem e185_29 (ph : Bool) (d : Nat) (L st : List zV) (M : zM) : zEv ph d 185 29 L st M = zcont ph d 185 (zstep ph (zEm ph d) 70 32 176 [1, 0, 30] L st M) := zEv_step rfl
theorem e185_32 (ph : Bool) (d : Nat) (L st : List zV) (M : zM) : zEv ph d 185 32 L st M = zcont ph d 185 (zstep ph (zEm ph d) 83 33 0 [] L st M) := zEv_step rfl
theorem m137 (ph : Bool) (d : Nat) (a x0 p0 y0 : Int) (M : zM) : zEm ph (d + 1) 137 [(27, a, x0), (0, p0, y0)] M = zEv ph d 137 0 [(27, a, x0), (0, p0, y0)] [] M := rfl
theorem e137_0 (ph : Bool) (d : Nat) (L st : List zV) (M : zM) : zEv ph d 137 0 L st M = zcont ph d 137 (zstep ph (zEm ph d) 4 1 0 [0] L st M) := zEv_step rfl
theorem e137_1 (ph : Bool) (d : Nat) (L st : List zV) (M : zM) : zEv ph d 137 1 L st M = zcont ph d 137 (zstep ph (zEm ph d) 2 2 0 [1] L st M) := zEv_step rfl
theorem e137_2 (ph : Bool) (d : Nat) (L st : List zV) (M : zM) : zEv ph d 137 2 L st M = zcont ph d 137 (zstep ph (zEm ph d) 65 5 0 [27, 2] L st M) := zEv_step rfl
theorem e137_5 (ph : Bool) (d : Nat) (L st : List zV) (M : zM) : zEv ph d 137 5 L st M = zcont ph d 137 (zstep ph (zEm ph d) 4 6 0 [0] L st M) := zEv_step rfl
theorem e137_6 (ph : Bool) (d : Nat) (L st : List zV) (M : zM) : zEv ph d 137 6 L st M = zcont ph d 137 (zstep ph (zEm ph d) 0 7 0 [0] L st M) := zEv_step rfl
theorem e137_7 (ph : Bool) (d : Nat) (L st : List zV) (M : zM) : zEv ph d 137 7 L st M = zcont ph d 137 (zstep ph (zEm ph d) 65 10 0 [27, 3] L st M) := zEv_step rfl
theorem e137_10 (ph : Bool) (d : Nat) (L st : List zV) (M : zM) : zEv ph d 137 10 L st M = zcont ph d 137 (zstep ph (zEm ph d) 4 11 0 [0] L st M) := zEv_step rfl
theorem e137_11 (ph : Bool) (d : Nat) (L st : List zV) (M : zM) : zEv ph d 137 11 L st M = zcont ph d 137 (zstep ph (zEm ph d) 0 12 0 [0] L st M) := zEv_step rfl
theorem e137_12 (ph : Bool) (d : Nat) (L st : List zV) (M : zM) : zEv ph d 137 12 L st M = zcont ph d 137 (zstep ph (zEm ph d) 65 15 0 [27, 10] L st M) := zEv_step rfl
theorem e137_15 (ph : Bool) (d : Nat) (L st : List zV) (M : zM) : zEv ph d 137 15 L st M = zcont ph d 137 (zstep ph (zEm ph d) 4 16 0 [0] L st M) := zEv_step rfl
theorem e137_16 (ph : Bool) (d : Nat) (L st : List zV) (M : zM) : zEv ph d 137 16 L st M = zcont ph d 137 (zstep ph (zEm ph d) 0 17 0 [0] L st M) := zEv_step rfl
theorem e137_17 (ph : Bool) (d : Nat) (L st : List zV) (M : zM) : zEv ph d 137 17 L st M = zcont ph d 137 (zstep ph (zEm ph d) 65 20 0 [27, 11] L st M) := zEv_step rfl
theorem e137_20 (ph : Bool) (d : Nat) (L st : List zV) (M : zM) : zEv ph d 137 20 L st M = zcont ph d 137 (zstep ph (zEm ph d) 4 21 0 [0] L st M) := zEv_step rfl
theorem e137_21 (ph : Bool) (d : Nat) (L st : List zV) (M : zM) : zEv ph d 137 21 L st M = zcont ph d 137 (zstep ph (zEm ph d) 70 24 141 [1, 0, 27] L st M) := zEv_step rfl
theorem e137_24 (ph : Bool) (d : Nat) (L st : List zV) (M : zM) : zEv ph d 137 24 L st M = zcont ph d 137 (zstep ph (zEm ph d) 83 25 0 [] L st M) := zEv_step rfl
theorem s_clrV (d : Nat) (x0 : Int) (M : zM) : ∀ (m : Nat) (i : Int) (N : zM), i + m = 25 → 0 ≤ i → (∀ x y, ¬ ((x = 9 ∧ 0 ≤ y ∧ y < 25)) → N x y = M x y) → (∀ a, 0 ≤ a → a < i → N 9 a = 0) → ∃ N', zEv true d 152 2 [(28, 4, x0), (0, i, 0)] [] N = zEv true d 152 24 [(28, 4, x0), (0, 25, 0)] [] N' ∧ (∀ x y, ¬ ((x = 9 ∧ 0 ≤ y ∧ y < 25)) → N' x y = M x y) ∧ ∀ a, 0 ≤ a → a < 25 → N' 9 a = 0
  | 0, i, N, hm, i0, h1, h2 => by
    have hi : i = 25 := by omega
    subst hi
    refine ⟨N, ?_, h1, h2⟩
    rw [e152_2]
    simp (disch := first | assumption | exact zrm0 | exact zrm1 _ | exact zrm2 _ _ | exact zrm3 _ _ _ | exact zrm4 _ _ _ _ | omega) only [m152, ↓k_dp, ↓k_dn, k_dp, k_dn, k_dT, k_dF, k_ip, k_in, if_true, if_false, ne_eq, not_true_eq_false, not_false_eq_true, Int.reduceAdd, zup_a, zup_e, zup_j, z32_id, k_ic, k_is1, k_il1, k_al0, k_gR, k_len, k_icge, k_ist, k_inc1, k_goto, k_pI, k_rv, e152_0, e152_1, e152_3, e152_4, e152_7, e152_8, e152_11, e152_12, e152_15, e152_16, e152_17, e152_18, e152_21, e152_25, e152_28, e152_29, e152_30, e152_31, e152_32, e152_35, e152_36, e152_37, e152_38, e152_39, e152_40, e152_43, e152_44, e152_45, e152_48, e152_49, e152_50, e152_53, e152_54, e152_55, e152_58, e152_59, e152_60, e152_63, e152_64, e152_65, e152_68]
  | m + 1, i, N, hm, i0, h1, h2 => by
    obtain ⟨N', n1, n2, n3⟩ := s_clrV d x0 M m (i + 1) (zup N 9 i 0) (by omega) (by omega) (fun x y h => by
      rw [zup_f (by omega)]
      exact h1 x y h) (fun a a0 a1 => by
      by_cases c : a = i
      · subst c
        rw [zup_e (by omega)]
      · have h3 := h2 a a0 (by omega)
        rw [zup_f (by omega)]; exact h3)
    refine ⟨N', ?_, n2, n3⟩
    rw [← n1, e152_2]
    simp (disch := first | assumption | exact zrm0 | exact zrm1 _ | exact zrm2 _ _ | exact zrm3 _ _ _ | exact zrm4 _ _ _ _ | omega) only [m152, ↓k_dp, ↓k_dn, k_dp, k_dn, k_dT, k_dF, k_ip, k_in, if_true, if_false, ne_eq, not_true_eq_false, not_false_eq_true, Int.reduceAdd, zup_a, zup_e, zup_j, z32_id, k_ic, k_is1, k_il1, k_al0, k_gR, k_len, k_icge, k_ist, k_inc1, k_goto, k_pI, k_rv, e152_0, e152_1, e152_3, e152_4, e152_7, e152_8, e152_11, e152_12, e152_15, e152_16, e152_17, e152_18, e152_21, e152_25, e152_28, e152_29, e152_30, e152_31, e152_32, e152_35, e152_36, e152_37, e152_38, e152_39, e152_40, e152_43, e152_44, e152_45, e152_48, e152_49, e152_50, e152_53, e152_54, e152_55, e152_58, e152_59, e152_60, e152_63, e152_64, e152_65, e152_68]
theorem s_clrS1 (d : Nat) (x0 : Int) (M : zM) : ∀ (m : Nat) (i : Int) (N : zM), i + m = 10 → 0 ≤ i → (∀ x y, ¬ ((x = 12 ∧ 0 ≤ y ∧ y < 10) ∨ (x = 13 ∧ 0 ≤ y ∧ y < 10)) → N x y = M x y) → (∀ a, 0 ≤ a → a < i → N 12 a = 0 ∧ N 13 a = 0) → ∃ N', zEv true d 112 2 [(26, 11, x0), (0, i, 0)] [] N = zEv true d 112 28 [(26, 11, x0), (0, 10, 0)] [] N' ∧ (∀ x y, ¬ ((x = 12 ∧ 0 ≤ y ∧ y < 10) ∨ (x = 13 ∧ 0 ≤ y ∧ y < 10)) → N' x y = M x y) ∧ ∀ a, 0 ≤ a → a < 10 → N' 12 a = 0 ∧ N' 13 a = 0
  | 0, i, N, hm, i0, h1, h2 => by
    have hi : i = 10 := by omega
    subst hi
    refine ⟨N, ?_, h1, h2⟩
    rw [e112_2]
    simp (disch := first | assumption | exact zrm0 | exact zrm1 _ | exact zrm2 _ _ | exact zrm3 _ _ _ | exact zrm4 _ _ _ _ | omega) only [m112, ↓k_dp, ↓k_dn, k_dp, k_dn, k_dT, k_dF, k_ip, k_in, if_true, if_false, ne_eq, not_true_eq_false, not_false_eq_true, Int.reduceAdd, zup_a, zup_e, zup_j, z32_id, k_ic, k_is1, k_il1, k_icge, k_al0, k_gR, k_ist, k_inc1, k_goto, k_pI, k_rv, e112_0, e112_1, e112_3, e112_5, e112_8, e112_9, e112_12, e112_13, e112_14, e112_15, e112_16, e112_19, e112_20, e112_21, e112_22, e112_25, e112_29, e112_30, e112_31, e112_32, e112_35, e112_36, e112_39, e112_40, e112_41, e112_42, e112_43, e112_46, e112_47, e112_48, e112_49, e112_50, e112_53, e112_54, e112_55, e112_56, e112_57, e112_60, e112_61, e112_62, e112_63, e112_64, e112_67, e112_68, e112_69, e112_70, e112_73, e112_76, e112_77, e112_80, e112_81, e112_82, e112_83, e112_84, e112_87, e112_88, e112_89, e112_90, e112_91, e112_92, e112_95, e112_96, e112_97, e112_100, e112_101, e112_102, e112_105]
  | m + 1, i, N, hm, i0, h1, h2 => by
    obtain ⟨N', n1, n2, n3⟩ := s_clrS1 d x0 M m (i + 1) (zup (zup N 12 i 0) 13 i 0) (by omega) (by omega) (fun x y h => by
      rw [zup_f (by omega), zup_f (by omega)]
      exact h1 x y h) (fun a a0 a1 => by
      by_cases c : a = i
      · subst c
        refine ⟨?_, ?_⟩
        · rw [zup_f (by omega), zup_e (by omega)]
        · rw [zup_e (by omega)]
      · have h3 := h2 a a0 (by omega)
        refine ⟨?_, ?_⟩
        · rw [zup_f (by omega), zup_f (by omega)]; exact h3.1
        · rw [zup_f (by omega), zup_f (by omega)]; exact h3.2)
    refine ⟨N', ?_, n2, n3⟩
    rw [← n1, e112_2]
    simp (disch := first | assumption | exact zrm0 | exact zrm1 _ | exact zrm2 _ _ | exact zrm3 _ _ _ | exact zrm4 _ _ _ _ | omega) only [m112, ↓k_dp, ↓k_dn, k_dp, k_dn, k_dT, k_dF, k_ip, k_in, if_true, if_false, ne_eq, not_true_eq_false, not_false_eq_true, Int.reduceAdd, zup_a, zup_e, zup_j, z32_id, k_ic, k_is1, k_il1, k_icge, k_al0, k_gR, k_ist, k_inc1, k_goto, k_pI, k_rv, e112_0, e112_1, e112_3, e112_5, e112_8, e112_9, e112_12, e112_13, e112_14, e112_15, e112_16, e112_19, e112_20, e112_21, e112_22, e112_25, e112_29, e112_30, e112_31, e112_32, e112_35, e112_36, e112_39, e112_40, e112_41, e112_42, e112_43, e112_46, e112_47, e112_48, e112_49, e112_50, e112_53, e112_54, e112_55, e112_56, e112_57, e112_60, e112_61, e112_62, e112_63, e112_64, e112_67, e112_68, e112_69, e112_70, e112_73, e112_76, e112_77, e112_80, e112_81, e112_82, e112_83, e112_84, e112_87, e112_88, e112_89, e112_90, e112_91, e112_92, e112_95, e112_96, e112_97, e112_100, e112_101, e112_102, e112_105]
theorem s_clrS2 (d : Nat) (x0 : Int) (M : zM) : ∀ (m : Nat) (i : Int) (N : zM), i + m = 5 → 0 ≤ i → (∀ x y, ¬ ((x = 14 ∧ 0 ≤ y ∧ y < 5) ∨ (x = 15 ∧ 0 ≤ y ∧ y < 5) ∨ (x = 16 ∧ 0 ≤ y ∧ y < 5) ∨ (x = 17 ∧ 0 ≤ y ∧ y < 5) ∨ (x = 18 ∧ 0 ≤ y ∧ y < 5)) → N x y = M x y) → (∀ a, 0 ≤ a → a < i → N 14 a = 0 ∧ N 15 a = 0 ∧ N 16 a = 0 ∧ N 17 a = -1 ∧ N 18 a = -1) → ∃ N', zEv true d 112 30 [(26, 11, x0), (0, i, 0)] [] N = zEv true d 112 76 [(26, 11, x0), (0, 5, 0)] [] N' ∧ (∀ x y, ¬ ((x = 14 ∧ 0 ≤ y ∧ y < 5) ∨ (x = 15 ∧ 0 ≤ y ∧ y < 5) ∨ (x = 16 ∧ 0 ≤ y ∧ y < 5) ∨ (x = 17 ∧ 0 ≤ y ∧ y < 5) ∨ (x = 18 ∧ 0 ≤ y ∧ y < 5)) → N' x y = M x y) ∧ ∀ a, 0 ≤ a → a < 5 → N' 14 a = 0 ∧ N' 15 a = 0 ∧ N' 16 a = 0 ∧ N' 17 a = -1 ∧ N' 18 a = -1
  | 0, i, N, hm, i0, h1, h2 => by
    have hi : i = 5 := by omega
    subst hi
    refine ⟨N, ?_, h1, h2⟩
    rw [e112_30]
    simp (disch := first | assumption | exact zrm0 | exact zrm1 _ | exact zrm2 _ _ | exact zrm3 _ _ _ | exact zrm4 _ _ _ _ | omega) only [m112, ↓k_dp, ↓k_dn, k_dp, k_dn, k_dT, k_dF, k_ip, k_in, if_true, if_false, ne_eq, not_true_eq_false, not_false_eq_true, Int.reduceAdd, zup_a, zup_e, zup_j, z32_id, k_ic, k_is1, k_il1, k_icge, k_al0, k_gR, k_ist, k_inc1, k_goto, k_pI, k_rv, e112_0, e112_1, e112_2, e112_3, e112_5, e112_8, e112_9, e112_12, e112_13, e112_14, e112_15, e112_16, e112_19, e112_20, e112_21, e112_22, e112_25, e112_28, e112_29, e112_31, e112_32, e112_35, e112_36, e112_39, e112_40, e112_41, e112_42, e112_43, e112_46, e112_47, e112_48, e112_49, e112_50, e112_53, e112_54, e112_55, e112_56, e112_57, e112_60, e112_61, e112_62, e112_63, e112_64, e112_67, e112_68, e112_69, e112_70, e112_73, e112_77, e112_80, e112_81, e112_82, e112_83, e112_84, e112_87, e112_88, e112_89, e112_90, e112_91, e112_92, e112_95, e112_96, e112_97, e112_100, e112_101, e112_102, e112_105]
  | m + 1, i, N, hm, i0, h1, h2 => by
    obtain ⟨N', n1, n2, n3⟩ := s_clrS2 d x0 M m (i + 1) (zup (zup (zup (zup (zup N 14 i 0) 15 i 0) 16 i 0) 17 i (-1)) 18 i (-1)) (by omega) (by omega) (fun x y h => by
      rw [zup_f (by omega), zup_f (by omega), zup_f (by omega), zup_f (by omega), zup_f (by omega)]
      exact h1 x y h) (fun a a0 a1 => by
      by_cases c : a = i
      · subst c
        refine ⟨?_, ?_, ?_, ?_, ?_⟩
        · rw [zup_f (by omega), zup_f (by omega), zup_f (by omega), zup_f (by omega), zup_e (by omega)]
        · rw [zup_f (by omega), zup_f (by omega), zup_f (by omega), zup_e (by omega)]
        · rw [zup_f (by omega), zup_f (by omega), zup_e (by omega)]
        · rw [zup_f (by omega), zup_e (by omega)]
        · rw [zup_e (by omega)]
      · have h3 := h2 a a0 (by omega)
        refine ⟨?_, ?_, ?_, ?_, ?_⟩
        · rw [zup_f (by omega), zup_f (by omega), zup_f (by omega), zup_f (by omega), zup_f (by omega)]; exact h3.1
        · rw [zup_f (by omega), zup_f (by omega), zup_f (by omega), zup_f (by omega), zup_f (by omega)]; exact h3.2.1
        · rw [zup_f (by omega), zup_f (by omega), zup_f (by omega), zup_f (by omega), zup_f (by omega)]; exact h3.2.2.1
        · rw [zup_f (by omega), zup_f (by omega), zup_f (by omega), zup_f (by omega), zup_f (by omega)]; exact h3.2.2.2.1
        · rw [zup_f (by omega), zup_f (by omega), zup_f (by omega), zup_f (by omega), zup_f (by omega)]; exact h3.2.2.2.2)
    refine ⟨N', ?_, n2, n3⟩
    rw [← n1, e112_30]
    simp (disch := first | assumption | exact zrm0 | exact zrm1 _ | exact zrm2 _ _ | exact zrm3 _ _ _ | exact zrm4 _ _ _ _ | omega) only [m112, ↓k_dp, ↓k_dn, k_dp, k_dn, k_dT, k_dF, k_ip, k_in, if_true, if_false, ne_eq, not_true_eq_false, not_false_eq_true, Int.reduceAdd, zup_a, zup_e, zup_j, z32_id, k_ic, k_is1, k_il1, k_icge, k_al0, k_gR, k_ist, k_inc1, k_goto, k_pI, k_rv, e112_0, e112_1, e112_2, e112_3, e112_5, e112_8, e112_9, e112_12, e112_13, e112_14, e112_15, e112_16, e112_19, e112_20, e112_21, e112_22, e112_25, e112_28, e112_29, e112_31, e112_32, e112_35, e112_36, e112_39, e112_40, e112_41, e112_42, e112_43, e112_46, e112_47, e112_48, e112_49, e112_50, e112_53, e112_54, e112_55, e112_56, e112_57, e112_60, e112_61, e112_62, e112_63, e112_64, e112_67, e112_68, e112_69, e112_70, e112_73, e112_77, e112_80, e112_81, e112_82, e112_83, e112_84, e112_87, e112_88, e112_89, e112_90, e112_91, e112_92, e112_95, e112_96, e112_97, e112_100, e112_101, e112_102, e112_105]
theorem r_val1 (d : Nat) (z0 : Int) (M : zM) : ∀ (m : Nat) (i : Int) (N : zM), i + m = 75 → 0 ≤ i → (∀ x y, ¬ ((x = 200 ∧ 0 ≤ y ∧ y < 75)) → N x y = M x y) → (∀ a, 0 ≤ a → a < i → N 200 a = 0) → ∃ N', zEv true d 203 9 [(30, 197, z0), (0, i, 0), (3, 0, 0)] [] N = zEv true d 203 28 [(30, 197, z0), (0, 75, 0), (3, 0, 0)] [] N' ∧ (∀ x y, ¬ ((x = 200 ∧ 0 ≤ y ∧ y < 75)) → N' x y = M x y) ∧ ∀ a, 0 ≤ a → a < 75 → N' 200 a = 0
  | 0, i, N, hm, i0, h1, h2 => by
    have hi : i = 75 := by omega
    subst hi
    refine ⟨N, ?_, h1, h2⟩
    rw [e203_9]
    simp (disch := first | assumption | exact zrm0 | exact zrm1 _ | exact zrm2 _ _ | exact zrm3 _ _ _ | exact zrm4 _ _ _ _ | omega) only [m203, ↓k_dp, ↓k_dn, k_dp, k_dn, k_dT, k_dF, k_ip, k_in, if_true, if_false, ne_eq, not_true_eq_false, not_false_eq_true, Int.reduceAdd, zup_a, zup_e, zup_j, z32_id, k_al0, k_ic, k_v2, k_is1, k_il1, k_icge, k_gR, k_ist, k_inc1, k_goto, k_bstZ, k_bstB, k_gI, k_ifeq, k_v1r, k_ifne, k_isub, k_ri, k_is2, k_il2, k_ild, k_ildS, k_ildW, k_inc2, k_lld, k_lst, k_v1, k_pI, zb0_some, zb1_some, e203_0, e203_1, e203_4, e203_7, e203_8, e203_10, e203_12, e203_15, e203_16, e203_19, e203_20, e203_21, e203_22, e203_25, e203_29, e203_30, e203_31, e203_33, e203_36, e203_37, e203_40, e203_41, e203_42, e203_43, e203_46, e203_49, e203_50, e203_53, e203_54, e203_55, e203_56, e203_57, e203_60, e203_61, e203_62, e203_63, e203_64, e203_65, e203_66, e203_69, e203_72, e203_73, e203_76, e203_79, e203_80, e203_83, e203_86, e203_87, e203_88, e203_91, e203_92, e203_93, e203_96, e203_99, e203_100, e203_101, e203_102, e203_104, e203_107, e203_108, e203_111, e203_112, e203_113, e203_116, e203_117, e203_118, e203_119, e203_122, e203_125, e203_126, e203_127, e203_128, e203_130, e203_133, e203_134, e203_137, e203_138, e203_139, e203_142, e203_143, e203_144, e203_145, e203_148, e203_151, e203_152, e203_155, e203_156, e203_157, e203_160, e203_161]
  | m + 1, i, N, hm, i0, h1, h2 => by
    obtain ⟨N', n1, n2, n3⟩ := r_val1 d z0 M m (i + 1) (zup N 200 i 0) (by omega) (by omega) (fun x y h => by
      rw [zup_f (by omega)]
      exact h1 x y h) (fun a a0 a1 => by
      by_cases c : a = i
      · subst c
        rw [zup_e (by omega)]
      · have h3 := h2 a a0 (by omega)
        rw [zup_f (by omega)]; exact h3)
    refine ⟨N', ?_, n2, n3⟩
    rw [← n1, e203_9]
    simp (disch := first | assumption | exact zrm0 | exact zrm1 _ | exact zrm2 _ _ | exact zrm3 _ _ _ | exact zrm4 _ _ _ _ | omega) only [m203, ↓k_dp, ↓k_dn, k_dp, k_dn, k_dT, k_dF, k_ip, k_in, if_true, if_false, ne_eq, not_true_eq_false, not_false_eq_true, Int.reduceAdd, zup_a, zup_e, zup_j, z32_id, k_al0, k_ic, k_v2, k_is1, k_il1, k_icge, k_gR, k_ist, k_inc1, k_goto, k_bstZ, k_bstB, k_gI, k_ifeq, k_v1r, k_ifne, k_isub, k_ri, k_is2, k_il2, k_ild, k_ildS, k_ildW, k_inc2, k_lld, k_lst, k_v1, k_pI, zb0_some, zb1_some, e203_0, e203_1, e203_4, e203_7, e203_8, e203_10, e203_12, e203_15, e203_16, e203_19, e203_20, e203_21, e203_22, e203_25, e203_29, e203_30, e203_31, e203_33, e203_36, e203_37, e203_40, e203_41, e203_42, e203_43, e203_46, e203_49, e203_50, e203_53, e203_54, e203_55, e203_56, e203_57, e203_60, e203_61, e203_62, e203_63, e203_64, e203_65, e203_66, e203_69, e203_72, e203_73, e203_76, e203_79, e203_80, e203_83, e203_86, e203_87, e203_88, e203_91, e203_92, e203_93, e203_96, e203_99, e203_100, e203_101, e203_102, e203_104, e203_107, e203_108, e203_111, e203_112, e203_113, e203_116, e203_117, e203_118, e203_119, e203_122, e203_125, e203_126, e203_127, e203_128, e203_130, e203_133, e203_134, e203_137, e203_138, e203_139, e203_142, e203_143, e203_144, e203_145, e203_148, e203_151, e203_152, e203_155, e203_156, e203_157, e203_160, e203_161]
theorem r_val2 (d : Nat) (z0 : Int) (M : zM) : ∀ (m : Nat) (i : Int) (N : zM), i + m = 6 → 0 ≤ i → (∀ x y, ¬ ((x = 208 ∧ 0 ≤ y ∧ y < 6)) → N x y = M x y) → (∀ a, 0 ≤ a → a < i → N 208 a = 0) → ∃ N', zEv true d 203 30 [(30, 197, z0), (0, i, 0), (3, 0, 0)] [] N = zEv true d 203 49 [(30, 197, z0), (0, 6, 0), (3, 0, 0)] [] N' ∧ (∀ x y, ¬ ((x = 208 ∧ 0 ≤ y ∧ y < 6)) → N' x y = M x y) ∧ ∀ a, 0 ≤ a → a < 6 → N' 208 a = 0
  | 0, i, N, hm, i0, h1, h2 => by
    have hi : i = 6 := by omega
    subst hi
    refine ⟨N, ?_, h1, h2⟩
    rw [e203_30]
    simp (disch := first | assumption | exact zrm0 | exact zrm1 _ | exact zrm2 _ _ | exact zrm3 _ _ _ | exact zrm4 _ _ _ _ | omega) only [m203, ↓k_dp, ↓k_dn, k_dp, k_dn, k_dT, k_dF, k_ip, k_in, if_true, if_false, ne_eq, not_true_eq_false, not_false_eq_true, Int.reduceAdd, zup_a, zup_e, zup_j, z32_id, k_al0, k_ic, k_v2, k_is1, k_il1, k_icge, k_gR, k_ist, k_inc1, k_goto, k_bstZ, k_bstB, k_gI, k_ifeq, k_v1r, k_ifne, k_isub, k_ri, k_is2, k_il2, k_ild, k_ildS, k_ildW, k_inc2, k_lld, k_lst, k_v1, k_pI, zb0_some, zb1_some, e203_0, e203_1, e203_4, e203_7, e203_8, e203_9, e203_10, e203_12, e203_15, e203_16, e203_19, e203_20, e203_21, e203_22, e203_25, e203_28, e203_29, e203_31, e203_33, e203_36, e203_37, e203_40, e203_41, e203_42, e203_43, e203_46, e203_50, e203_53, e203_54, e203_55, e203_56, e203_57, e203_60, e203_61, e203_62, e203_63, e203_64, e203_65, e203_66, e203_69, e203_72, e203_73, e203_76, e203_79, e203_80, e203_83, e203_86, e203_87, e203_88, e203_91, e203_92, e203_93, e203_96, e203_99, e203_100, e203_101, e203_102, e203_104, e203_107, e203_108, e203_111, e203_112, e203_113, e203_116, e203_117, e203_118, e203_119, e203_122, e203_125, e203_126, e203_127, e203_128, e203_130, e203_133, e203_134, e203_137, e203_138, e203_139, e203_142, e203_143, e203_144, e203_145, e203_148, e203_151, e203_152, e203_155, e203_156, e203_157, e203_160, e203_161]
  | m + 1, i, N, hm, i0, h1, h2 => by
    obtain ⟨N', n1, n2, n3⟩ := r_val2 d z0 M m (i + 1) (zup N 208 i 0) (by omega) (by omega) (fun x y h => by
      rw [zup_f (by omega)]
      exact h1 x y h) (fun a a0 a1 => by
      by_cases c : a = i
      · subst c
        rw [zup_e (by omega)]
      · have h3 := h2 a a0 (by omega)
        rw [zup_f (by omega)]; exact h3)
    refine ⟨N', ?_, n2, n3⟩
    rw [← n1, e203_30]
    simp (disch := first | assumption | exact zrm0 | exact zrm1 _ | exact zrm2 _ _ | exact zrm3 _ _ _ | exact zrm4 _ _ _ _ | omega) only [m203, ↓k_dp, ↓k_dn, k_dp, k_dn, k_dT, k_dF, k_ip, k_in, if_true, if_false, ne_eq, not_true_eq_false, not_false_eq_true, Int.reduceAdd, zup_a, zup_e, zup_j, z32_id, k_al0, k_ic, k_v2, k_is1, k_il1, k_icge, k_gR, k_ist, k_inc1, k_goto, k_bstZ, k_bstB, k_gI, k_ifeq, k_v1r, k_ifne, k_isub, k_ri, k_is2, k_il2, k_ild, k_ildS, k_ildW, k_inc2, k_lld, k_lst, k_v1, k_pI, zb0_some, zb1_some, e203_0, e203_1, e203_4, e203_7, e203_8, e203_9, e203_10, e203_12, e203_15, e203_16, e203_19, e203_20, e203_21, e203_22, e203_25, e203_28, e203_29, e203_31, e203_33, e203_36, e203_37, e203_40, e203_41, e203_42, e203_43, e203_46, e203_50, e203_53, e203_54, e203_55, e203_56, e203_57, e203_60, e203_61, e203_62, e203_63, e203_64, e203_65, e203_66, e203_69, e203_72, e203_73, e203_76, e203_79, e203_80, e203_83, e203_86, e203_87, e203_88, e203_91, e203_92, e203_93, e203_96, e203_99, e203_100, e203_101, e203_102, e203_104, e203_107, e203_108, e203_111, e203_112, e203_113, e203_116, e203_117, e203_118, e203_119, e203_122, e203_125, e203_126, e203_127, e203_128, e203_130, e203_133, e203_134, e203_137, e203_138, e203_139, e203_142, e203_143, e203_144, e203_145, e203_148, e203_151, e203_152, e203_155, e203_156, e203_157, e203_160, e203_161]
theorem r_val3 (d : Nat) (z0 l : Int) (M : zM) : ∀ (m : Nat) (i : Int) (N : zM), i + m = 75 → 0 ≤ i → (∀ x y, ¬ ((x = 199 ∧ 0 ≤ y ∧ y < 75)) → N x y = M x y) → (∀ a, 0 ≤ a → a < i → N 199 a = M 200 a) → ∃ N', zEv true d 203 101 [(30, 197, z0), (0, l, 0), (0, i, 0)] [] N = zEv true d 203 125 [(30, 197, z0), (0, l, 0), (0, 75, 0)] [] N' ∧ (∀ x y, ¬ ((x = 199 ∧ 0 ≤ y ∧ y < 75)) → N' x y = M x y) ∧ ∀ a, 0 ≤ a → a < 75 → N' 199 a = M 200 a
  | 0, i, N, hm, i0, h1, h2 => by
    have hi : i = 75 := by omega
    subst hi
    refine ⟨N, ?_, h1, h2⟩
    rw [e203_101]
    simp (disch := first | assumption | exact zrm0 | exact zrm1 _ | exact zrm2 _ _ | exact zrm3 _ _ _ | exact zrm4 _ _ _ _ | omega) only [m203, ↓k_dp, ↓k_dn, k_dp, k_dn, k_dT, k_dF, k_ip, k_in, if_true, if_false, ne_eq, not_true_eq_false, not_false_eq_true, Int.reduceAdd, zup_a, zup_e, zup_j, z32_id, k_al0, k_ic, k_v2, k_is1, k_il1, k_icge, k_gR, k_ist, k_inc1, k_goto, k_bstZ, k_bstB, k_gI, k_ifeq, k_v1r, k_ifne, k_isub, k_ri, k_is2, k_il2, k_ild, k_ildS, k_ildW, k_inc2, k_lld, k_lst, k_v1, k_pI, zb0_some, zb1_some, e203_0, e203_1, e203_4, e203_7, e203_8, e203_9, e203_10, e203_12, e203_15, e203_16, e203_19, e203_20, e203_21, e203_22, e203_25, e203_28, e203_29, e203_30, e203_31, e203_33, e203_36, e203_37, e203_40, e203_41, e203_42, e203_43, e203_46, e203_49, e203_50, e203_53, e203_54, e203_55, e203_56, e203_57, e203_60, e203_61, e203_62, e203_63, e203_64, e203_65, e203_66, e203_69, e203_72, e203_73, e203_76, e203_79, e203_80, e203_83, e203_86, e203_87, e203_88, e203_91, e203_92, e203_93, e203_96, e203_99, e203_100, e203_102, e203_104, e203_107, e203_108, e203_111, e203_112, e203_113, e203_116, e203_117, e203_118, e203_119, e203_122, e203_126, e203_127, e203_128, e203_130, e203_133, e203_134, e203_137, e203_138, e203_139, e203_142, e203_143, e203_144, e203_145, e203_148, e203_151, e203_152, e203_155, e203_156, e203_157, e203_160, e203_161]
  | m + 1, i, N, hm, i0, h1, h2 => by
    have hr0 : N 200 i = M 200 i := h1 _ _ (by omega)
    obtain ⟨N', n1, n2, n3⟩ := r_val3 d z0 l M m (i + 1) (zup N 199 i (M 200 i)) (by omega) (by omega) (fun x y h => by
      rw [zup_f (by omega)]
      exact h1 x y h) (fun a a0 a1 => by
      by_cases c : a = i
      · subst c
        rw [zup_e (by omega)]
      · have h3 := h2 a a0 (by omega)
        rw [zup_f (by omega)]; exact h3)
    refine ⟨N', ?_, n2, n3⟩
    rw [← n1, e203_101]
    simp (disch := first | assumption | exact zrm0 | exact zrm1 _ | exact zrm2 _ _ | exact zrm3 _ _ _ | exact zrm4 _ _ _ _ | omega) only [m203, ↓k_dp, ↓k_dn, k_dp, k_dn, k_dT, k_dF, k_ip, k_in, if_true, if_false, ne_eq, not_true_eq_false, not_false_eq_true, Int.reduceAdd, zup_a, zup_e, zup_j, z32_id, k_al0, k_ic, k_v2, k_is1, k_il1, k_icge, k_gR, k_ist, k_inc1, k_goto, k_bstZ, k_bstB, k_gI, k_ifeq, k_v1r, k_ifne, k_isub, k_ri, k_is2, k_il2, k_ild, k_ildS, k_ildW, k_inc2, k_lld, k_lst, k_v1, k_pI, zb0_some, zb1_some, e203_0, e203_1, e203_4, e203_7, e203_8, e203_9, e203_10, e203_12, e203_15, e203_16, e203_19, e203_20, e203_21, e203_22, e203_25, e203_28, e203_29, e203_30, e203_31, e203_33, e203_36, e203_37, e203_40, e203_41, e203_42, e203_43, e203_46, e203_49, e203_50, e203_53, e203_54, e203_55, e203_56, e203_57, e203_60, e203_61, e203_62, e203_63, e203_64, e203_65, e203_66, e203_69, e203_72, e203_73, e203_76, e203_79, e203_80, e203_83, e203_86, e203_87, e203_88, e203_91, e203_92, e203_93, e203_96, e203_99, e203_100, e203_102, e203_104, e203_107, e203_108, e203_111, e203_112, e203_113, e203_116, e203_117, e203_118, e203_119, e203_122, e203_126, e203_127, e203_128, e203_130, e203_133, e203_134, e203_137, e203_138, e203_139, e203_142, e203_143, e203_144, e203_145, e203_148, e203_151, e203_152, e203_155, e203_156, e203_157, e203_160, e203_161, hr0]
theorem r_val4 (d : Nat) (z0 l : Int) (M : zM) : ∀ (m : Nat) (i : Int) (N : zM), i + m = 20 → 0 ≤ i → (∀ x y, ¬ ((x = 204 ∧ 0 ≤ y ∧ y < 20)) → N x y = M x y) → (∀ a, 0 ≤ a → a < i → N 204 a = M 205 a) → ∃ N', zEv true d 203 127 [(30, 197, z0), (0, l, 0), (0, i, 0)] [] N = zEv true d 203 151 [(30, 197, z0), (0, l, 0), (0, 20, 0)] [] N' ∧ (∀ x y, ¬ ((x = 204 ∧ 0 ≤ y ∧ y < 20)) → N' x y = M x y) ∧ ∀ a, 0 ≤ a → a < 20 → N' 204 a = M 205 a
  | 0, i, N, hm, i0, h1, h2 => by
    have hi : i = 20 := by omega
    subst hi
    refine ⟨N, ?_, h1, h2⟩
    rw [e203_127]
    simp (disch := first | assumption | exact zrm0 | exact zrm1 _ | exact zrm2 _ _ | exact zrm3 _ _ _ | exact zrm4 _ _ _ _ | omega) only [m203, ↓k_dp, ↓k_dn, k_dp, k_dn, k_dT, k_dF, k_ip, k_in, if_true, if_false, ne_eq, not_true_eq_false, not_false_eq_true, Int.reduceAdd, zup_a, zup_e, zup_j, z32_id, k_al0, k_ic, k_v2, k_is1, k_il1, k_icge, k_gR, k_ist, k_inc1, k_goto, k_bstZ, k_bstB, k_gI, k_ifeq, k_v1r, k_ifne, k_isub, k_ri, k_is2, k_il2, k_ild, k_ildS, k_ildW, k_inc2, k_lld, k_lst, k_v1, k_pI, zb0_some, zb1_some, e203_0, e203_1, e203_4, e203_7, e203_8, e203_9, e203_10, e203_12, e203_15, e203_16, e203_19, e203_20, e203_21, e203_22, e203_25, e203_28, e203_29, e203_30, e203_31, e203_33, e203_36, e203_37, e203_40, e203_41, e203_42, e203_43, e203_46, e203_49, e203_50, e203_53, e203_54, e203_55, e203_56, e203_57, e203_60, e203_61, e203_62, e203_63, e203_64, e203_65, e203_66, e203_69, e203_72, e203_73, e203_76, e203_79, e203_80, e203_83, e203_86, e203_87, e203_88, e203_91, e203_92, e203_93, e203_96, e203_99, e203_100, e203_101, e203_102, e203_104, e203_107, e203_108, e203_111, e203_112, e203_113, e203_116, e203_117, e203_118, e203_119, e203_122, e203_125, e203_126, e203_128, e203_130, e203_133, e203_134, e203_137, e203_138, e203_139, e203_142, e203_143, e203_144, e203_145, e203_148, e203_152, e203_155, e203_156, e203_157, e203_160, e203_161]
  | m + 1, i, N, hm, i0, h1, h2 => by
    have hr0 : N 205 i = M 205 i := h1 _ _ (by omega)
    obtain ⟨N', n1, n2, n3⟩ := r_val4 d z0 l M m (i + 1) (zup N 204 i (M 205 i)) (by omega) (by omega) (fun x y h => by
      rw [zup_f (by omega)]
      exact h1 x y h) (fun a a0 a1 => by
      by_cases c : a = i
      · subst c
        rw [zup_e (by omega)]
      · have h3 := h2 a a0 (by omega)
        rw [zup_f (by omega)]; exact h3)
    refine ⟨N', ?_, n2, n3⟩
    rw [← n1, e203_127]
    simp (disch := first | assumption | exact zrm0 | exact zrm1 _ | exact zrm2 _ _ | exact zrm3 _ _ _ | exact zrm4 _ _ _ _ | omega) only [m203, ↓k_dp, ↓k_dn, k_dp, k_dn, k_dT, k_dF, k_ip, k_in, if_true, if_false, ne_eq, not_true_eq_false, not_false_eq_true, Int.reduceAdd, zup_a, zup_e, zup_j, z32_id, k_al0, k_ic, k_v2, k_is1, k_il1, k_icge, k_gR, k_ist, k_inc1, k_goto, k_bstZ, k_bstB, k_gI, k_ifeq, k_v1r, k_ifne, k_isub, k_ri, k_is2, k_il2, k_ild, k_ildS, k_ildW, k_inc2, k_lld, k_lst, k_v1, k_pI, zb0_some, zb1_some, e203_0, e203_1, e203_4, e203_7, e203_8, e203_9, e203_10, e203_12, e203_15, e203_16, e203_19, e203_20, e203_21, e203_22, e203_25, e203_28, e203_29, e203_30, e203_31, e203_33, e203_36, e203_37, e203_40, e203_41, e203_42, e203_43, e203_46, e203_49, e203_50, e203_53, e203_54, e203_55, e203_56, e203_57, e203_60, e203_61, e203_62, e203_63, e203_64, e203_65, e203_66, e203_69, e203_72, e203_73, e203_76, e203_79, e203_80, e203_83, e203_86, e203_87, e203_88, e203_91, e203_92, e203_93, e203_96, e203_99, e203_100, e203_101, e203_102, e203_104, e203_107, e203_108, e203_111, e203_112, e203_113, e203_116, e203_117, e203_118, e203_119, e203_122, e203_125, e203_126, e203_128, e203_130, e203_133, e203_134, e203_137, e203_138, e203_139, e203_142, e203_143, e203_144, e203_145, e203_148, e203_152, e203_155, e203_156, e203_157, e203_160, e203_161, hr0]
theorem r_st1 (d : Nat) (z0 : Int) (M : zM) : ∀ (m : Nat) (i : Int) (N : zM), i + m = 368 → 75 ≤ i → (∀ x y, ¬ ((x = 199 ∧ 75 ≤ y ∧ y < 368)) → N x y = M x y) → (∀ a, 75 ≤ a → a < i → N 199 a = 0) → ∃ N', zEv true d 187 3 [(30, 197, z0), (0, i, 0)] [] N = zEv true d 187 23 [(30, 197, z0), (0, 368, 0)] [] N' ∧ (∀ x y, ¬ ((x = 199 ∧ 75 ≤ y ∧ y < 368)) → N' x y = M x y) ∧ ∀ a, 75 ≤ a → a < 368 → N' 199 a = 0
  | 0, i, N, hm, i0, h1, h2 => by
    have hi : i = 368 := by omega
    subst hi
    refine ⟨N, ?_, h1, h2⟩
    rw [e187_3]
    simp (disch := first | assumption | exact zrm0 | exact zrm1 _ | exact zrm2 _ _ | exact zrm3 _ _ _ | exact zrm4 _ _ _ _ | omega) only [m187, ↓k_dp, ↓k_dn, k_dp, k_dn, k_dT, k_dF, k_ip, k_in, if_true, if_false, ne_eq, not_true_eq_false, not_false_eq_true, Int.reduceAdd, zup_a, zup_e, zup_j, z32_id, k_ic, k_is1, k_il1, k_icge, k_al0, k_gR, k_ist, k_inc1, k_goto, k_iadd, k_ild, k_ildS, k_ildW, k_rv, e187_0, e187_2, e187_4, e187_7, e187_10, e187_11, e187_14, e187_15, e187_16, e187_17, e187_20, e187_24, e187_25, e187_26, e187_27, e187_30, e187_31, e187_34, e187_36, e187_37, e187_38, e187_39, e187_42, e187_43, e187_44, e187_45, e187_46, e187_47, e187_50, e187_53, e187_54, e187_55, e187_56, e187_58, e187_61, e187_62, e187_65, e187_67, e187_68, e187_69, e187_70, e187_73, e187_75, e187_76, e187_77, e187_78, e187_79, e187_80, e187_83, e187_85, e187_86, e187_87, e187_88, e187_91, e187_93, e187_94, e187_95, e187_96, e187_97, e187_100, e187_103, e187_104, e187_105, e187_106, e187_107, e187_110, e187_111, e187_114, e187_116, e187_117, e187_118, e187_119, e187_122, e187_124, e187_125, e187_126, e187_127, e187_128, e187_129, e187_132, e187_134, e187_135, e187_136, e187_137, e187_140, e187_142, e187_143, e187_144, e187_145, e187_146, e187_147, e187_150, e187_152, e187_153, e187_154, e187_155, e187_156, e187_157, e187_160, e187_162, e187_163, e187_164, e187_165, e187_166, e187_169, e187_172]
  | m + 1, i, N, hm, i0, h1, h2 => by
    obtain ⟨N', n1, n2, n3⟩ := r_st1 d z0 M m (i + 1) (zup N 199 i 0) (by omega) (by omega) (fun x y h => by
      rw [zup_f (by omega)]
      exact h1 x y h) (fun a a0 a1 => by
      by_cases c : a = i
      · subst c
        rw [zup_e (by omega)]
      · have h3 := h2 a a0 (by omega)
        rw [zup_f (by omega)]; exact h3)
    refine ⟨N', ?_, n2, n3⟩
    rw [← n1, e187_3]
    simp (disch := first | assumption | exact zrm0 | exact zrm1 _ | exact zrm2 _ _ | exact zrm3 _ _ _ | exact zrm4 _ _ _ _ | omega) only [m187, ↓k_dp, ↓k_dn, k_dp, k_dn, k_dT, k_dF, k_ip, k_in, if_true, if_false, ne_eq, not_true_eq_false, not_false_eq_true, Int.reduceAdd, zup_a, zup_e, zup_j, z32_id, k_ic, k_is1, k_il1, k_icge, k_al0, k_gR, k_ist, k_inc1, k_goto, k_iadd, k_ild, k_ildS, k_ildW, k_rv, e187_0, e187_2, e187_4, e187_7, e187_10, e187_11, e187_14, e187_15, e187_16, e187_17, e187_20, e187_24, e187_25, e187_26, e187_27, e187_30, e187_31, e187_34, e187_36, e187_37, e187_38, e187_39, e187_42, e187_43, e187_44, e187_45, e187_46, e187_47, e187_50, e187_53, e187_54, e187_55, e187_56, e187_58, e187_61, e187_62, e187_65, e187_67, e187_68, e187_69, e187_70, e187_73, e187_75, e187_76, e187_77, e187_78, e187_79, e187_80, e187_83, e187_85, e187_86, e187_87, e187_88, e187_91, e187_93, e187_94, e187_95, e187_96, e187_97, e187_100, e187_103, e187_104, e187_105, e187_106, e187_107, e187_110, e187_111, e187_114, e187_116, e187_117, e187_118, e187_119, e187_122, e187_124, e187_125, e187_126, e187_127, e187_128, e187_129, e187_132, e187_134, e187_135, e187_136, e187_137, e187_140, e187_142, e187_143, e187_144, e187_145, e187_146, e187_147, e187_150, e187_152, e187_153, e187_154, e187_155, e187_156, e187_157, e187_160, e187_162, e187_163, e187_164, e187_165, e187_166, e187_169, e187_172]
theorem r_st2 (d : Nat) (z0 : Int) (M : zM) : ∀ (m : Nat) (i : Int) (N : zM), i + m = 2 → 0 ≤ i → (∀ x y, ¬ ((x = 199 ∧ 79 ≤ y ∧ y < 81)) → N x y = M x y) → (∀ a, 0 ≤ a → a < i → N 199 (79 + a) = M 199 (5 + a)) → ∃ N', zEv true d 187 25 [(30, 197, z0), (0, i, 0)] [] N = zEv true d 187 53 [(30, 197, z0), (0, 2, 0)] [] N' ∧ (∀ x y, ¬ ((x = 199 ∧ 79 ≤ y ∧ y < 81)) → N' x y = M x y) ∧ ∀ a, 0 ≤ a → a < 2 → N' 199 (79 + a) = M 199 (5 + a)
  | 0, i, N, hm, i0, h1, h2 => by
    have hi : i = 2 := by omega
    subst hi
    refine ⟨N, ?_, h1, h2⟩
    rw [e187_25]
    simp (disch := first | assumption | exact zrm0 | exact zrm1 _ | exact zrm2 _ _ | exact zrm3 _ _ _ | exact zrm4 _ _ _ _ | omega) only [m187, ↓k_dp, ↓k_dn, k_dp, k_dn, k_dT, k_dF, k_ip, k_in, if_true, if_false, ne_eq, not_true_eq_false, not_false_eq_true, Int.reduceAdd, zup_a, zup_e, zup_j, z32_id, k_ic, k_is1, k_il1, k_icge, k_al0, k_gR, k_ist, k_inc1, k_goto, k_iadd, k_ild, k_ildS, k_ildW, k_rv, e187_0, e187_2, e187_3, e187_4, e187_7, e187_10, e187_11, e187_14, e187_15, e187_16, e187_17, e187_20, e187_23, e187_24, e187_26, e187_27, e187_30, e187_31, e187_34, e187_36, e187_37, e187_38, e187_39, e187_42, e187_43, e187_44, e187_45, e187_46, e187_47, e187_50, e187_54, e187_55, e187_56, e187_58, e187_61, e187_62, e187_65, e187_67, e187_68, e187_69, e187_70, e187_73, e187_75, e187_76, e187_77, e187_78, e187_79, e187_80, e187_83, e187_85, e187_86, e187_87, e187_88, e187_91, e187_93, e187_94, e187_95, e187_96, e187_97, e187_100, e187_103, e187_104, e187_105, e187_106, e187_107, e187_110, e187_111, e187_114, e187_116, e187_117, e187_118, e187_119, e187_122, e187_124, e187_125, e187_126, e187_127, e187_128, e187_129, e187_132, e187_134, e187_135, e187_136, e187_137, e187_140, e187_142, e187_143, e187_144, e187_145, e187_146, e187_147, e187_150, e187_152, e187_153, e187_154, e187_155, e187_156, e187_157, e187_160, e187_162, e187_163, e187_164, e187_165, e187_166, e187_169, e187_172]
  | m + 1, i, N, hm, i0, h1, h2 => by
    have hr0 : N 199 (5 + i) = M 199 (5 + i) := h1 _ _ (by omega)
    obtain ⟨N', n1, n2, n3⟩ := r_st2 d z0 M m (i + 1) (zup N 199 (79 + i) (M 199 (5 + i))) (by omega) (by omega) (fun x y h => by
      rw [zup_f (by omega)]
      exact h1 x y h) (fun a a0 a1 => by
      by_cases c : a = i
      · subst c
        rw [zup_e (by omega)]
      · have h3 := h2 a a0 (by omega)
        rw [zup_f (by omega)]; exact h3)
    refine ⟨N', ?_, n2, n3⟩
    rw [← n1, e187_25]
    simp (disch := first | assumption | exact zrm0 | exact zrm1 _ | exact zrm2 _ _ | exact zrm3 _ _ _ | exact zrm4 _ _ _ _ | omega) only [m187, ↓k_dp, ↓k_dn, k_dp, k_dn, k_dT, k_dF, k_ip, k_in, if_true, if_false, ne_eq, not_true_eq_false, not_false_eq_true, Int.reduceAdd, zup_a, zup_e, zup_j, z32_id, k_ic, k_is1, k_il1, k_icge, k_al0, k_gR, k_ist, k_inc1, k_goto, k_iadd, k_ild, k_ildS, k_ildW, k_rv, e187_0, e187_2, e187_3, e187_4, e187_7, e187_10, e187_11, e187_14, e187_15, e187_16, e187_17, e187_20, e187_23, e187_24, e187_26, e187_27, e187_30, e187_31, e187_34, e187_36, e187_37, e187_38, e187_39, e187_42, e187_43, e187_44, e187_45, e187_46, e187_47, e187_50, e187_54, e187_55, e187_56, e187_58, e187_61, e187_62, e187_65, e187_67, e187_68, e187_69, e187_70, e187_73, e187_75, e187_76, e187_77, e187_78, e187_79, e187_80, e187_83, e187_85, e187_86, e187_87, e187_88, e187_91, e187_93, e187_94, e187_95, e187_96, e187_97, e187_100, e187_103, e187_104, e187_105, e187_106, e187_107, e187_110, e187_111, e187_114, e187_116, e187_117, e187_118, e187_119, e187_122, e187_124, e187_125, e187_126, e187_127, e187_128, e187_129, e187_132, e187_134, e187_135, e187_136, e187_137, e187_140, e187_142, e187_143, e187_144, e187_145, e187_146, e187_147, e187_150, e187_152, e187_153, e187_154, e187_155, e187_156, e187_157, e187_160, e187_162, e187_163, e187_164, e187_165, e187_166, e187_169, e187_172, hr0]
theorem r_st3 (d : Nat) (z0 : Int) (M : zM) : ∀ (m : Nat) (i : Int) (N : zM), i + m = 10 → 0 ≤ i → (∀ x y, ¬ ((x = 199 ∧ 81 ≤ y ∧ y < 91) ∨ (x = 199 ∧ 91 ≤ y ∧ y < 101)) → N x y = M x y) → (∀ a, 0 ≤ a → a < i → N 199 (81 + a) = M 199 (19 + a) ∧ N 199 (91 + a) = M 199 (29 + a)) → ∃ N', zEv true d 187 55 [(30, 197, z0), (0, i, 0)] [] N = zEv true d 187 103 [(30, 197, z0), (0, 10, 0)] [] N' ∧ (∀ x y, ¬ ((x = 199 ∧ 81 ≤ y ∧ y < 91) ∨ (x = 199 ∧ 91 ≤ y ∧ y < 101)) → N' x y = M x y) ∧ ∀ a, 0 ≤ a → a < 10 → N' 199 (81 + a) = M 199 (19 + a) ∧ N' 199 (91 + a) = M 199 (29 + a)
  | 0, i, N, hm, i0, h1, h2 => by
    have hi : i = 10 := by omega
    subst hi
    refine ⟨N, ?_, h1, h2⟩
    rw [e187_55]
    simp (disch := first | assumption | exact zrm0 | exact zrm1 _ | exact zrm2 _ _ | exact zrm3 _ _ _ | exact zrm4 _ _ _ _ | omega) only [m187, ↓k_dp, ↓k_dn, k_dp, k_dn, k_dT, k_dF, k_ip, k_in, if_true, if_false, ne_eq, not_true_eq_false, not_false_eq_true, Int.reduceAdd, zup_a, zup_e, zup_j, z32_id, k_ic, k_is1, k_il1, k_icge, k_al0, k_gR, k_ist, k_inc1, k_goto, k_iadd, k_ild, k_ildS, k_ildW, k_rv, e187_0, e187_2, e187_3, e187_4, e187_7, e187_10, e187_11, e187_14, e187_15, e187_16, e187_17, e187_20, e187_23, e187_24, e187_25, e187_26, e187_27, e187_30, e187_31, e187_34, e187_36, e187_37, e187_38, e187_39, e187_42, e187_43, e187_44, e187_45, e187_46, e187_47, e187_50, e187_53, e187_54, e187_56, e187_58, e187_61, e187_62, e187_65, e187_67, e187_68, e187_69, e187_70, e187_73, e187_75, e187_76, e187_77, e187_78, e187_79, e187_80, e187_83, e187_85, e187_86, e187_87, e187_88, e187_91, e187_93, e187_94, e187_95, e187_96, e187_97, e187_100, e187_104, e187_105, e187_106, e187_107, e187_110, e187_111, e187_114, e187_116, e187_117, e187_118, e187_119, e187_122, e187_124, e187_125, e187_126, e187_127, e187_128, e187_129, e187_132, e187_134, e187_135, e187_136, e187_137, e187_140, e187_142, e187_143, e187_144, e187_145, e187_146, e187_147, e187_150, e187_152, e187_153, e187_154, e187_155, e187_156, e187_157, e187_160, e187_162, e187_163, e187_164, e187_165, e187_166, e187_169, e187_172]
  | m + 1, i, N, hm, i0, h1, h2 => by
    have hr0 : N 199 (19 + i) = M 199 (19 + i) := h1 _ _ (by omega)
    have hr1 : N 199 (29 + i) = M 199 (29 + i) := h1 _ _ (by omega)
    obtain ⟨N', n1, n2, n3⟩ := r_st3 d z0 M m (i + 1) (zup (zup N 199 (81 + i) (M 199 (19 + i))) 199 (91 + i) (M 199 (29 + i))) (by omega) (by omega) (fun x y h => by
      rw [zup_f (by omega), zup_f (by omega)]
      exact h1 x y h) (fun a a0 a1 => by
      by_cases c : a = i
      · subst c
        refine ⟨?_, ?_⟩
        · rw [zup_f (by omega), zup_e (by omega)]
        · rw [zup_e (by omega)]
      · have h3 := h2 a a0 (by omega)
        refine ⟨?_, ?_⟩
        · rw [zup_f (by omega), zup_f (by omega)]; exact h3.1
        · rw [zup_f (by omega), zup_f (by omega)]; exact h3.2)
    refine ⟨N', ?_, n2, n3⟩
    rw [← n1, e187_55]
    simp (disch := first | assumption | exact zrm0 | exact zrm1 _ | exact zrm2 _ _ | exact zrm3 _ _ _ | exact zrm4 _ _ _ _ | omega) only [m187, ↓k_dp, ↓k_dn, k_dp, k_dn, k_dT, k_dF, k_ip, k_in, if_true, if_false, ne_eq, not_true_eq_false, not_false_eq_true, Int.reduceAdd, zup_a, zup_e, zup_j, z32_id, k_ic, k_is1, k_il1, k_icge, k_al0, k_gR, k_ist, k_inc1, k_goto, k_iadd, k_ild, k_ildS, k_ildW, k_rv, e187_0, e187_2, e187_3, e187_4, e187_7, e187_10, e187_11, e187_14, e187_15, e187_16, e187_17, e187_20, e187_23, e187_24, e187_25, e187_26, e187_27, e187_30, e187_31, e187_34, e187_36, e187_37, e187_38, e187_39, e187_42, e187_43, e187_44, e187_45, e187_46, e187_47, e187_50, e187_53, e187_54, e187_56, e187_58, e187_61, e187_62, e187_65, e187_67, e187_68, e187_69, e187_70, e187_73, e187_75, e187_76, e187_77, e187_78, e187_79, e187_80, e187_83, e187_85, e187_86, e187_87, e187_88, e187_91, e187_93, e187_94, e187_95, e187_96, e187_97, e187_100, e187_104, e187_105, e187_106, e187_107, e187_110, e187_111, e187_114, e187_116, e187_117, e187_118, e187_119, e187_122, e187_124, e187_125, e187_126, e187_127, e187_128, e187_129, e187_132, e187_134, e187_135, e187_136, e187_137, e187_140, e187_142, e187_143, e187_144, e187_145, e187_146, e187_147, e187_150, e187_152, e187_153, e187_154, e187_155, e187_156, e187_157, e187_160, e187_162, e187_163, e187_164, e187_165, e187_166, e187_169, e187_172, hr0, hr1]
theorem r_st4 (d : Nat) (z0 : Int) (M : zM) : ∀ (m : Nat) (i : Int) (N : zM), i + m = 5 → 0 ≤ i → (∀ x y, ¬ ((x = 199 ∧ 101 ≤ y ∧ y < 106) ∨ (x = 199 ∧ 106 ≤ y ∧ y < 111) ∨ (x = 199 ∧ 116 ≤ y ∧ y < 121) ∨ (x = 199 ∧ 121 ≤ y ∧ y < 126)) → N x y = M x y) → (∀ a, 0 ≤ a → a < i → N 199 (101 + a) = M 199 (40 + a) ∧ N 199 (106 + a) = M 199 (45 + a) ∧ N 199 (116 + a) = -1 ∧ N 199 (121 + a) = -1) → ∃ N', zEv true d 187 105 [(30, 197, z0), (0, i, 0)] [] N = zEv true d 187 172 [(30, 197, z0), (0, 5, 0)] [] N' ∧ (∀ x y, ¬ ((x = 199 ∧ 101 ≤ y ∧ y < 106) ∨ (x = 199 ∧ 106 ≤ y ∧ y < 111) ∨ (x = 199 ∧ 116 ≤ y ∧ y < 121) ∨ (x = 199 ∧ 121 ≤ y ∧ y < 126)) → N' x y = M x y) ∧ ∀ a, 0 ≤ a → a < 5 → N' 199 (101 + a) = M 199 (40 + a) ∧ N' 199 (106 + a) = M 199 (45 + a) ∧ N' 199 (116 + a) = -1 ∧ N' 199 (121 + a) = -1
  | 0, i, N, hm, i0, h1, h2 => by
    have hi : i = 5 := by omega
    subst hi
    refine ⟨N, ?_, h1, h2⟩
    rw [e187_105]
    simp (disch := first | assumption | exact zrm0 | exact zrm1 _ | exact zrm2 _ _ | exact zrm3 _ _ _ | exact zrm4 _ _ _ _ | omega) only [m187, ↓k_dp, ↓k_dn, k_dp, k_dn, k_dT, k_dF, k_ip, k_in, if_true, if_false, ne_eq, not_true_eq_false, not_false_eq_true, Int.reduceAdd, zup_a, zup_e, zup_j, z32_id, k_ic, k_is1, k_il1, k_icge, k_al0, k_gR, k_ist, k_inc1, k_goto, k_iadd, k_ild, k_ildS, k_ildW, k_rv, e187_0, e187_2, e187_3, e187_4, e187_7, e187_10, e187_11, e187_14, e187_15, e187_16, e187_17, e187_20, e187_23, e187_24, e187_25, e187_26, e187_27, e187_30, e187_31, e187_34, e187_36, e187_37, e187_38, e187_39, e187_42, e187_43, e187_44, e187_45, e187_46, e187_47, e187_50, e187_53, e187_54, e187_55, e187_56, e187_58, e187_61, e187_62, e187_65, e187_67, e187_68, e187_69, e187_70, e187_73, e187_75, e187_76, e187_77, e187_78, e187_79, e187_80, e187_83, e187_85, e187_86, e187_87, e187_88, e187_91, e187_93, e187_94, e187_95, e187_96, e187_97, e187_100, e187_103, e187_104, e187_106, e187_107, e187_110, e187_111, e187_114, e187_116, e187_117, e187_118, e187_119, e187_122, e187_124, e187_125, e187_126, e187_127, e187_128, e187_129, e187_132, e187_134, e187_135, e187_136, e187_137, e187_140, e187_142, e187_143, e187_144, e187_145, e187_146, e187_147, e187_150, e187_152, e187_153, e187_154, e187_155, e187_156, e187_157, e187_160, e187_162, e187_163, e187_164, e187_165, e187_166, e187_169]
  | m + 1, i, N, hm, i0, h1, h2 => by
    have hr0 : N 199 (40 + i) = M 199 (40 + i) := h1 _ _ (by omega)
    have hr1 : N 199 (45 + i) = M 199 (45 + i) := h1 _ _ (by omega)
    obtain ⟨N', n1, n2, n3⟩ := r_st4 d z0 M m (i + 1) (zup (zup (zup (zup N 199 (101 + i) (M 199 (40 + i))) 199 (106 + i) (M 199 (45 + i))) 199 (116 + i) (-1)) 199 (121 + i) (-1)) (by omega) (by omega) (fun x y h => by
      rw [zup_f (by omega), zup_f (by omega), zup_f (by omega), zup_f (by omega)]
      exact h1 x y h) (fun a a0 a1 => by
      by_cases c : a = i
      · subst c
        refine ⟨?_, ?_, ?_, ?_⟩
        · rw [zup_f (by omega), zup_f (by omega), zup_f (by omega), zup_e (by omega)]
        · rw [zup_f (by omega), zup_f (by omega), zup_e (by omega)]
        · rw [zup_f (by omega), zup_e (by omega)]
        · rw [zup_e (by omega)]
      · have h3 := h2 a a0 (by omega)
        refine ⟨?_, ?_, ?_, ?_⟩
        · rw [zup_f (by omega), zup_f (by omega), zup_f (by omega), zup_f (by omega)]; exact h3.1
        · rw [zup_f (by omega), zup_f (by omega), zup_f (by omega), zup_f (by omega)]; exact h3.2.1
        · rw [zup_f (by omega), zup_f (by omega), zup_f (by omega), zup_f (by omega)]; exact h3.2.2.1
        · rw [zup_f (by omega), zup_f (by omega), zup_f (by omega), zup_f (by omega)]; exact h3.2.2.2)
    refine ⟨N', ?_, n2, n3⟩
    rw [← n1, e187_105]
    simp (disch := first | assumption | exact zrm0 | exact zrm1 _ | exact zrm2 _ _ | exact zrm3 _ _ _ | exact zrm4 _ _ _ _ | omega) only [m187, ↓k_dp, ↓k_dn, k_dp, k_dn, k_dT, k_dF, k_ip, k_in, if_true, if_false, ne_eq, not_true_eq_false, not_false_eq_true, Int.reduceAdd, zup_a, zup_e, zup_j, z32_id, k_ic, k_is1, k_il1, k_icge, k_al0, k_gR, k_ist, k_inc1, k_goto, k_iadd, k_ild, k_ildS, k_ildW, k_rv, e187_0, e187_2, e187_3, e187_4, e187_7, e187_10, e187_11, e187_14, e187_15, e187_16, e187_17, e187_20, e187_23, e187_24, e187_25, e187_26, e187_27, e187_30, e187_31, e187_34, e187_36, e187_37, e187_38, e187_39, e187_42, e187_43, e187_44, e187_45, e187_46, e187_47, e187_50, e187_53, e187_54, e187_55, e187_56, e187_58, e187_61, e187_62, e187_65, e187_67, e187_68, e187_69, e187_70, e187_73, e187_75, e187_76, e187_77, e187_78, e187_79, e187_80, e187_83, e187_85, e187_86, e187_87, e187_88, e187_91, e187_93, e187_94, e187_95, e187_96, e187_97, e187_100, e187_103, e187_104, e187_106, e187_107, e187_110, e187_111, e187_114, e187_116, e187_117, e187_118, e187_119, e187_122, e187_124, e187_125, e187_126, e187_127, e187_128, e187_129, e187_132, e187_134, e187_135, e187_136, e187_137, e187_140, e187_142, e187_143, e187_144, e187_145, e187_146, e187_147, e187_150, e187_152, e187_153, e187_154, e187_155, e187_156, e187_157, e187_160, e187_162, e187_163, e187_164, e187_165, e187_166, e187_169, hr0, hr1]
