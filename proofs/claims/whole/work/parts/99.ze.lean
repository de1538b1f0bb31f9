/-! the reference's images -/
theorem m297 (ph : Bool) (d : Nat) (a x0 p0 y0 : Int) (M : zM) : zEm ph (d + 1) 297 [(30, a, x0), (0, p0, y0)] M = zEv ph d 297 0 [(30, a, x0), (0, p0, y0), (3, 0, 0)] [] M := rfl
theorem e297_0 (ph : Bool) (d : Nat) (L st : List zV) (M : zM) : zEv ph d 297 0 L st M = zcont ph d 297 (zstep ph (zEm ph d) 4 1 0 [0] L st M) := zEv_step rfl
theorem e297_1 (ph : Bool) (d : Nat) (L st : List zV) (M : zM) : zEv ph d 297 1 L st M = zcont ph d 297 (zstep ph (zEm ph d) 0 2 0 [0] L st M) := zEv_step rfl
theorem e297_2 (ph : Bool) (d : Nat) (L st : List zV) (M : zM) : zEv ph d 297 2 L st M = zcont ph d 297 (zstep ph (zEm ph d) 65 5 0 [30, 0] L st M) := zEv_step rfl
theorem e297_5 (ph : Bool) (d : Nat) (L st : List zV) (M : zM) : zEv ph d 297 5 L st M = zcont ph d 297 (zstep ph (zEm ph d) 2 6 0 [1] L st M) := zEv_step rfl
theorem e297_6 (ph : Bool) (d : Nat) (L st : List zV) (M : zM) : zEv ph d 297 6 L st M = zcont ph d 297 (zstep ph (zEm ph d) 0 7 0 [0] L st M) := zEv_step rfl
theorem e297_7 (ph : Bool) (d : Nat) (L st : List zV) (M : zM) : zEv ph d 297 7 L st M = zcont ph d 297 (zstep ph (zEm ph d) 0 8 0 [1] L st M) := zEv_step rfl
theorem e297_8 (ph : Bool) (d : Nat) (L st : List zV) (M : zM) : zEv ph d 297 8 L st M = zcont ph d 297 (zstep ph (zEm ph d) 70 11 168 [3, 1, -1] L st M) := zEv_step rfl
theorem e297_11 (ph : Bool) (d : Nat) (L st : List zV) (M : zM) : zEv ph d 297 11 L st M = zcont ph d 297 (zstep ph (zEm ph d) 41 14 16 [] L st M) := zEv_step rfl
theorem e297_14 (ph : Bool) (d : Nat) (L st : List zV) (M : zM) : zEv ph d 297 14 L st M = zcont ph d 297 (zstep ph (zEm ph d) 0 15 0 [0] L st M) := zEv_step rfl
theorem e297_15 (ph : Bool) (d : Nat) (L st : List zV) (M : zM) : zEv ph d 297 15 L st M = zcont ph d 297 (zstep ph (zEm ph d) 80 16 0 [0, 1] L st M) := zEv_step rfl
theorem e297_16 (ph : Bool) (d : Nat) (L st : List zV) (M : zM) : zEv ph d 297 16 L st M = zcont ph d 297 (zstep ph (zEm ph d) 0 17 0 [0] L st M) := zEv_step rfl
theorem e297_17 (ph : Bool) (d : Nat) (L st : List zV) (M : zM) : zEv ph d 297 17 L st M = zcont ph d 297 (zstep ph (zEm ph d) 5 18 0 [2] L st M) := zEv_step rfl
theorem e297_18 (ph : Bool) (d : Nat) (L st : List zV) (M : zM) : zEv ph d 297 18 L st M = zcont ph d 297 (zstep ph (zEm ph d) 2 19 0 [2] L st M) := zEv_step rfl
theorem e297_19 (ph : Bool) (d : Nat) (L st : List zV) (M : zM) : zEv ph d 297 19 L st M = zcont ph d 297 (zstep ph (zEm ph d) 0 22 0 [368] L st M) := zEv_step rfl
theorem e297_22 (ph : Bool) (d : Nat) (L st : List zV) (M : zM) : zEv ph d 297 22 L st M = zcont ph d 297 (zstep ph (zEm ph d) 49 25 49 [] L st M) := zEv_step rfl
theorem e297_25 (ph : Bool) (d : Nat) (L st : List zV) (M : zM) : zEv ph d 297 25 L st M = zcont ph d 297 (zstep ph (zEm ph d) 4 26 0 [0] L st M) := zEv_step rfl
theorem e297_26 (ph : Bool) (d : Nat) (L st : List zV) (M : zM) : zEv ph d 297 26 L st M = zcont ph d 297 (zstep ph (zEm ph d) 62 29 0 [30, 16, 4, 10, 736] L st M) := zEv_step rfl
theorem e297_29 (ph : Bool) (d : Nat) (L st : List zV) (M : zM) : zEv ph d 297 29 L st M = zcont ph d 297 (zstep ph (zEm ph d) 0 32 0 [368] L st M) := zEv_step rfl
theorem e297_32 (ph : Bool) (d : Nat) (L st : List zV) (M : zM) : zEv ph d 297 32 L st M = zcont ph d 297 (zstep ph (zEm ph d) 2 33 0 [1] L st M) := zEv_step rfl
theorem e297_33 (ph : Bool) (d : Nat) (L st : List zV) (M : zM) : zEv ph d 297 33 L st M = zcont ph d 297 (zstep ph (zEm ph d) 12 34 0 [] L st M) := zEv_step rfl
theorem e297_34 (ph : Bool) (d : Nat) (L st : List zV) (M : zM) : zEv ph d 297 34 L st M = zcont ph d 297 (zstep ph (zEm ph d) 2 35 0 [2] L st M) := zEv_step rfl
theorem e297_35 (ph : Bool) (d : Nat) (L st : List zV) (M : zM) : zEv ph d 297 35 L st M = zcont ph d 297 (zstep ph (zEm ph d) 10 36 0 [] L st M) := zEv_step rfl
theorem e297_36 (ph : Bool) (d : Nat) (L st : List zV) (M : zM) : zEv ph d 297 36 L st M = zcont ph d 297 (zstep ph (zEm ph d) 4 37 0 [0] L st M) := zEv_step rfl
theorem e297_37 (ph : Bool) (d : Nat) (L st : List zV) (M : zM) : zEv ph d 297 37 L st M = zcont ph d 297 (zstep ph (zEm ph d) 62 40 0 [30, 14, 2, 10, 368] L st M) := zEv_step rfl
theorem e297_40 (ph : Bool) (d : Nat) (L st : List zV) (M : zM) : zEv ph d 297 40 L st M = zcont ph d 297 (zstep ph (zEm ph d) 2 41 0 [2] L st M) := zEv_step rfl
theorem e297_41 (ph : Bool) (d : Nat) (L st : List zV) (M : zM) : zEv ph d 297 41 L st M = zcont ph d 297 (zstep ph (zEm ph d) 85 42 0 [] L st M) := zEv_step rfl
theorem e297_42 (ph : Bool) (d : Nat) (L st : List zV) (M : zM) : zEv ph d 297 42 L st M = zcont ph d 297 (zstep ph (zEm ph d) 89 43 0 [] L st M) := zEv_step rfl
theorem e297_43 (ph : Bool) (d : Nat) (L st : List zV) (M : zM) : zEv ph d 297 43 L st M = zcont ph d 297 (zstep ph (zEm ph d) 8 46 0 [2, 1] L st M) := zEv_step rfl
theorem e297_46 (ph : Bool) (d : Nat) (L st : List zV) (M : zM) : zEv ph d 297 46 L st M = zcont ph d 297 (zstep ph (zEm ph d) 52 49 18 [] L st M) := zEv_step rfl
theorem e297_49 (ph : Bool) (d : Nat) (L st : List zV) (M : zM) : zEv ph d 297 49 L st M = zcont ph d 297 (zstep ph (zEm ph d) 0 50 0 [0] L st M) := zEv_step rfl
theorem e297_50 (ph : Bool) (d : Nat) (L st : List zV) (M : zM) : zEv ph d 297 50 L st M = zcont ph d 297 (zstep ph (zEm ph d) 5 51 0 [2] L st M) := zEv_step rfl
theorem e297_51 (ph : Bool) (d : Nat) (L st : List zV) (M : zM) : zEv ph d 297 51 L st M = zcont ph d 297 (zstep ph (zEm ph d) 2 52 0 [2] L st M) := zEv_step rfl
theorem e297_52 (ph : Bool) (d : Nat) (L st : List zV) (M : zM) : zEv ph d 297 52 L st M = zcont ph d 297 (zstep ph (zEm ph d) 0 54 0 [20] L st M) := zEv_step rfl
theorem e297_54 (ph : Bool) (d : Nat) (L st : List zV) (M : zM) : zEv ph d 297 54 L st M = zcont ph d 297 (zstep ph (zEm ph d) 49 57 80 [] L st M) := zEv_step rfl
theorem e297_57 (ph : Bool) (d : Nat) (L st : List zV) (M : zM) : zEv ph d 297 57 L st M = zcont ph d 297 (zstep ph (zEm ph d) 4 58 0 [0] L st M) := zEv_step rfl
theorem e297_58 (ph : Bool) (d : Nat) (L st : List zV) (M : zM) : zEv ph d 297 58 L st M = zcont ph d 297 (zstep ph (zEm ph d) 62 61 0 [30, 21, 9, 11, 40] L st M) := zEv_step rfl
theorem e297_61 (ph : Bool) (d : Nat) (L st : List zV) (M : zM) : zEv ph d 297 61 L st M = zcont ph d 297 (zstep ph (zEm ph d) 0 63 0 [20] L st M) := zEv_step rfl
theorem e297_63 (ph : Bool) (d : Nat) (L st : List zV) (M : zM) : zEv ph d 297 63 L st M = zcont ph d 297 (zstep ph (zEm ph d) 2 64 0 [1] L st M) := zEv_step rfl
theorem e297_64 (ph : Bool) (d : Nat) (L st : List zV) (M : zM) : zEv ph d 297 64 L st M = zcont ph d 297 (zstep ph (zEm ph d) 12 65 0 [] L st M) := zEv_step rfl
theorem e297_65 (ph : Bool) (d : Nat) (L st : List zV) (M : zM) : zEv ph d 297 65 L st M = zcont ph d 297 (zstep ph (zEm ph d) 2 66 0 [2] L st M) := zEv_step rfl
theorem e297_66 (ph : Bool) (d : Nat) (L st : List zV) (M : zM) : zEv ph d 297 66 L st M = zcont ph d 297 (zstep ph (zEm ph d) 10 67 0 [] L st M) := zEv_step rfl
theorem e297_67 (ph : Bool) (d : Nat) (L st : List zV) (M : zM) : zEv ph d 297 67 L st M = zcont ph d 297 (zstep ph (zEm ph d) 4 68 0 [0] L st M) := zEv_step rfl
theorem e297_68 (ph : Bool) (d : Nat) (L st : List zV) (M : zM) : zEv ph d 297 68 L st M = zcont ph d 297 (zstep ph (zEm ph d) 62 71 0 [30, 19, 7, 11, 20] L st M) := zEv_step rfl
theorem e297_71 (ph : Bool) (d : Nat) (L st : List zV) (M : zM) : zEv ph d 297 71 L st M = zcont ph d 297 (zstep ph (zEm ph d) 2 72 0 [2] L st M) := zEv_step rfl
theorem e297_72 (ph : Bool) (d : Nat) (L st : List zV) (M : zM) : zEv ph d 297 72 L st M = zcont ph d 297 (zstep ph (zEm ph d) 86 73 0 [] L st M) := zEv_step rfl
theorem e297_73 (ph : Bool) (d : Nat) (L st : List zV) (M : zM) : zEv ph d 297 73 L st M = zcont ph d 297 (zstep ph (zEm ph d) 90 74 0 [] L st M) := zEv_step rfl
theorem e297_74 (ph : Bool) (d : Nat) (L st : List zV) (M : zM) : zEv ph d 297 74 L st M = zcont ph d 297 (zstep ph (zEm ph d) 8 77 0 [2, 1] L st M) := zEv_step rfl
theorem e297_77 (ph : Bool) (d : Nat) (L st : List zV) (M : zM) : zEv ph d 297 77 L st M = zcont ph d 297 (zstep ph (zEm ph d) 52 80 51 [] L st M) := zEv_step rfl
theorem e297_80 (ph : Bool) (d : Nat) (L st : List zV) (M : zM) : zEv ph d 297 80 L st M = zcont ph d 297 (zstep ph (zEm ph d) 4 81 0 [0] L st M) := zEv_step rfl
theorem e297_81 (ph : Bool) (d : Nat) (L st : List zV) (M : zM) : zEv ph d 297 81 L st M = zcont ph d 297 (zstep ph (zEm ph d) 62 84 0 [30, 22, 10, 12, 2] L st M) := zEv_step rfl
theorem e297_84 (ph : Bool) (d : Nat) (L st : List zV) (M : zM) : zEv ph d 297 84 L st M = zcont ph d 297 (zstep ph (zEm ph d) 2 85 0 [1] L st M) := zEv_step rfl
theorem e297_85 (ph : Bool) (d : Nat) (L st : List zV) (M : zM) : zEv ph d 297 85 L st M = zcont ph d 297 (zstep ph (zEm ph d) 0 86 0 [1] L st M) := zEv_step rfl
theorem e297_86 (ph : Bool) (d : Nat) (L st : List zV) (M : zM) : zEv ph d 297 86 L st M = zcont ph d 297 (zstep ph (zEm ph d) 91 87 0 [] L st M) := zEv_step rfl
theorem e297_87 (ph : Bool) (d : Nat) (L st : List zV) (M : zM) : zEv ph d 297 87 L st M = zcont ph d 297 (zstep ph (zEm ph d) 0 88 0 [1] L st M) := zEv_step rfl
theorem e297_88 (ph : Bool) (d : Nat) (L st : List zV) (M : zM) : zEv ph d 297 88 L st M = zcont ph d 297 (zstep ph (zEm ph d) 80 89 0 [0, 1] L st M) := zEv_step rfl
theorem m298 (ph : Bool) (d : Nat) (a x0 p0 y0 : Int) (M : zM) : zEm ph (d + 1) 298 [(30, a, x0), (0, p0, y0)] M = zEv ph d 298 0 [(30, a, x0), (0, p0, y0), (3, 0, 0)] [] M := rfl
theorem e298_0 (ph : Bool) (d : Nat) (L st : List zV) (M : zM) : zEv ph d 298 0 L st M = zcont ph d 298 (zstep ph (zEm ph d) 4 1 0 [0] L st M) := zEv_step rfl
theorem e298_1 (ph : Bool) (d : Nat) (L st : List zV) (M : zM) : zEv ph d 298 1 L st M = zcont ph d 298 (zstep ph (zEm ph d) 0 2 0 [0] L st M) := zEv_step rfl
theorem e298_2 (ph : Bool) (d : Nat) (L st : List zV) (M : zM) : zEv ph d 298 2 L st M = zcont ph d 298 (zstep ph (zEm ph d) 65 5 0 [30, 0] L st M) := zEv_step rfl
theorem e298_5 (ph : Bool) (d : Nat) (L st : List zV) (M : zM) : zEv ph d 298 5 L st M = zcont ph d 298 (zstep ph (zEm ph d) 2 6 0 [1] L st M) := zEv_step rfl
theorem e298_6 (ph : Bool) (d : Nat) (L st : List zV) (M : zM) : zEv ph d 298 6 L st M = zcont ph d 298 (zstep ph (zEm ph d) 0 7 0 [0] L st M) := zEv_step rfl
theorem e298_7 (ph : Bool) (d : Nat) (L st : List zV) (M : zM) : zEv ph d 298 7 L st M = zcont ph d 298 (zstep ph (zEm ph d) 0 8 0 [1] L st M) := zEv_step rfl
theorem e298_8 (ph : Bool) (d : Nat) (L st : List zV) (M : zM) : zEv ph d 298 8 L st M = zcont ph d 298 (zstep ph (zEm ph d) 70 11 168 [3, 1, -1] L st M) := zEv_step rfl
theorem e298_11 (ph : Bool) (d : Nat) (L st : List zV) (M : zM) : zEv ph d 298 11 L st M = zcont ph d 298 (zstep ph (zEm ph d) 40 14 23 [] L st M) := zEv_step rfl
theorem e298_14 (ph : Bool) (d : Nat) (L st : List zV) (M : zM) : zEv ph d 298 14 L st M = zcont ph d 298 (zstep ph (zEm ph d) 4 15 0 [0] L st M) := zEv_step rfl
theorem e298_15 (ph : Bool) (d : Nat) (L st : List zV) (M : zM) : zEv ph d 298 15 L st M = zcont ph d 298 (zstep ph (zEm ph d) 62 18 0 [30, 22, 10, 12, 2] L st M) := zEv_step rfl
theorem e298_18 (ph : Bool) (d : Nat) (L st : List zV) (M : zM) : zEv ph d 298 18 L st M = zcont ph d 298 (zstep ph (zEm ph d) 2 19 0 [1] L st M) := zEv_step rfl
theorem e298_19 (ph : Bool) (d : Nat) (L st : List zV) (M : zM) : zEv ph d 298 19 L st M = zcont ph d 298 (zstep ph (zEm ph d) 87 20 0 [] L st M) := zEv_step rfl
theorem e298_20 (ph : Bool) (d : Nat) (L st : List zV) (M : zM) : zEv ph d 298 20 L st M = zcont ph d 298 (zstep ph (zEm ph d) 41 23 25 [] L st M) := zEv_step rfl
theorem e298_23 (ph : Bool) (d : Nat) (L st : List zV) (M : zM) : zEv ph d 298 23 L st M = zcont ph d 298 (zstep ph (zEm ph d) 0 24 0 [0] L st M) := zEv_step rfl
theorem e298_24 (ph : Bool) (d : Nat) (L st : List zV) (M : zM) : zEv ph d 298 24 L st M = zcont ph d 298 (zstep ph (zEm ph d) 80 25 0 [0, 1] L st M) := zEv_step rfl
theorem e298_25 (ph : Bool) (d : Nat) (L st : List zV) (M : zM) : zEv ph d 298 25 L st M = zcont ph d 298 (zstep ph (zEm ph d) 0 26 0 [0] L st M) := zEv_step rfl
theorem e298_26 (ph : Bool) (d : Nat) (L st : List zV) (M : zM) : zEv ph d 298 26 L st M = zcont ph d 298 (zstep ph (zEm ph d) 5 27 0 [2] L st M) := zEv_step rfl
theorem e298_27 (ph : Bool) (d : Nat) (L st : List zV) (M : zM) : zEv ph d 298 27 L st M = zcont ph d 298 (zstep ph (zEm ph d) 2 28 0 [2] L st M) := zEv_step rfl
theorem e298_28 (ph : Bool) (d : Nat) (L st : List zV) (M : zM) : zEv ph d 298 28 L st M = zcont ph d 298 (zstep ph (zEm ph d) 0 31 0 [368] L st M) := zEv_step rfl
theorem e298_31 (ph : Bool) (d : Nat) (L st : List zV) (M : zM) : zEv ph d 298 31 L st M = zcont ph d 298 (zstep ph (zEm ph d) 49 34 58 [] L st M) := zEv_step rfl
theorem e298_34 (ph : Bool) (d : Nat) (L st : List zV) (M : zM) : zEv ph d 298 34 L st M = zcont ph d 298 (zstep ph (zEm ph d) 4 35 0 [0] L st M) := zEv_step rfl
theorem e298_35 (ph : Bool) (d : Nat) (L st : List zV) (M : zM) : zEv ph d 298 35 L st M = zcont ph d 298 (zstep ph (zEm ph d) 62 38 0 [30, 14, 2, 10, 368] L st M) := zEv_step rfl
theorem e298_38 (ph : Bool) (d : Nat) (L st : List zV) (M : zM) : zEv ph d 298 38 L st M = zcont ph d 298 (zstep ph (zEm ph d) 2 39 0 [2] L st M) := zEv_step rfl
theorem e298_39 (ph : Bool) (d : Nat) (L st : List zV) (M : zM) : zEv ph d 298 39 L st M = zcont ph d 298 (zstep ph (zEm ph d) 4 40 0 [0] L st M) := zEv_step rfl
theorem e298_40 (ph : Bool) (d : Nat) (L st : List zV) (M : zM) : zEv ph d 298 40 L st M = zcont ph d 298 (zstep ph (zEm ph d) 62 43 0 [30, 16, 4, 10, 736] L st M) := zEv_step rfl
theorem e298_43 (ph : Bool) (d : Nat) (L st : List zV) (M : zM) : zEv ph d 298 43 L st M = zcont ph d 298 (zstep ph (zEm ph d) 0 46 0 [368] L st M) := zEv_step rfl
theorem e298_46 (ph : Bool) (d : Nat) (L st : List zV) (M : zM) : zEv ph d 298 46 L st M = zcont ph d 298 (zstep ph (zEm ph d) 2 47 0 [1] L st M) := zEv_step rfl
theorem e298_47 (ph : Bool) (d : Nat) (L st : List zV) (M : zM) : zEv ph d 298 47 L st M = zcont ph d 298 (zstep ph (zEm ph d) 12 48 0 [] L st M) := zEv_step rfl
theorem e298_48 (ph : Bool) (d : Nat) (L st : List zV) (M : zM) : zEv ph d 298 48 L st M = zcont ph d 298 (zstep ph (zEm ph d) 2 49 0 [2] L st M) := zEv_step rfl
theorem e298_49 (ph : Bool) (d : Nat) (L st : List zV) (M : zM) : zEv ph d 298 49 L st M = zcont ph d 298 (zstep ph (zEm ph d) 10 50 0 [] L st M) := zEv_step rfl
theorem e298_50 (ph : Bool) (d : Nat) (L st : List zV) (M : zM) : zEv ph d 298 50 L st M = zcont ph d 298 (zstep ph (zEm ph d) 85 51 0 [] L st M) := zEv_step rfl
theorem e298_51 (ph : Bool) (d : Nat) (L st : List zV) (M : zM) : zEv ph d 298 51 L st M = zcont ph d 298 (zstep ph (zEm ph d) 89 52 0 [] L st M) := zEv_step rfl
theorem e298_52 (ph : Bool) (d : Nat) (L st : List zV) (M : zM) : zEv ph d 298 52 L st M = zcont ph d 298 (zstep ph (zEm ph d) 8 55 0 [2, 1] L st M) := zEv_step rfl
theorem e298_55 (ph : Bool) (d : Nat) (L st : List zV) (M : zM) : zEv ph d 298 55 L st M = zcont ph d 298 (zstep ph (zEm ph d) 52 58 27 [] L st M) := zEv_step rfl
theorem e298_58 (ph : Bool) (d : Nat) (L st : List zV) (M : zM) : zEv ph d 298 58 L st M = zcont ph d 298 (zstep ph (zEm ph d) 0 59 0 [0] L st M) := zEv_step rfl
theorem e298_59 (ph : Bool) (d : Nat) (L st : List zV) (M : zM) : zEv ph d 298 59 L st M = zcont ph d 298 (zstep ph (zEm ph d) 5 60 0 [2] L st M) := zEv_step rfl
theorem e298_60 (ph : Bool) (d : Nat) (L st : List zV) (M : zM) : zEv ph d 298 60 L st M = zcont ph d 298 (zstep ph (zEm ph d) 2 61 0 [2] L st M) := zEv_step rfl
theorem e298_61 (ph : Bool) (d : Nat) (L st : List zV) (M : zM) : zEv ph d 298 61 L st M = zcont ph d 298 (zstep ph (zEm ph d) 0 63 0 [20] L st M) := zEv_step rfl
theorem e298_63 (ph : Bool) (d : Nat) (L st : List zV) (M : zM) : zEv ph d 298 63 L st M = zcont ph d 298 (zstep ph (zEm ph d) 49 66 89 [] L st M) := zEv_step rfl
theorem e298_66 (ph : Bool) (d : Nat) (L st : List zV) (M : zM) : zEv ph d 298 66 L st M = zcont ph d 298 (zstep ph (zEm ph d) 4 67 0 [0] L st M) := zEv_step rfl
theorem e298_67 (ph : Bool) (d : Nat) (L st : List zV) (M : zM) : zEv ph d 298 67 L st M = zcont ph d 298 (zstep ph (zEm ph d) 62 70 0 [30, 19, 7, 11, 20] L st M) := zEv_step rfl
theorem e298_70 (ph : Bool) (d : Nat) (L st : List zV) (M : zM) : zEv ph d 298 70 L st M = zcont ph d 298 (zstep ph (zEm ph d) 2 71 0 [2] L st M) := zEv_step rfl
theorem e298_71 (ph : Bool) (d : Nat) (L st : List zV) (M : zM) : zEv ph d 298 71 L st M = zcont ph d 298 (zstep ph (zEm ph d) 4 72 0 [0] L st M) := zEv_step rfl
theorem e298_72 (ph : Bool) (d : Nat) (L st : List zV) (M : zM) : zEv ph d 298 72 L st M = zcont ph d 298 (zstep ph (zEm ph d) 62 75 0 [30, 21, 9, 11, 40] L st M) := zEv_step rfl
theorem e298_75 (ph : Bool) (d : Nat) (L st : List zV) (M : zM) : zEv ph d 298 75 L st M = zcont ph d 298 (zstep ph (zEm ph d) 0 77 0 [20] L st M) := zEv_step rfl
theorem e298_77 (ph : Bool) (d : Nat) (L st : List zV) (M : zM) : zEv ph d 298 77 L st M = zcont ph d 298 (zstep ph (zEm ph d) 2 78 0 [1] L st M) := zEv_step rfl
theorem e298_78 (ph : Bool) (d : Nat) (L st : List zV) (M : zM) : zEv ph d 298 78 L st M = zcont ph d 298 (zstep ph (zEm ph d) 12 79 0 [] L st M) := zEv_step rfl
theorem e298_79 (ph : Bool) (d : Nat) (L st : List zV) (M : zM) : zEv ph d 298 79 L st M = zcont ph d 298 (zstep ph (zEm ph d) 2 80 0 [2] L st M) := zEv_step rfl
theorem e298_80 (ph : Bool) (d : Nat) (L st : List zV) (M : zM) : zEv ph d 298 80 L st M = zcont ph d 298 (zstep ph (zEm ph d) 10 81 0 [] L st M) := zEv_step rfl
theorem e298_81 (ph : Bool) (d : Nat) (L st : List zV) (M : zM) : zEv ph d 298 81 L st M = zcont ph d 298 (zstep ph (zEm ph d) 86 82 0 [] L st M) := zEv_step rfl
theorem e298_82 (ph : Bool) (d : Nat) (L st : List zV) (M : zM) : zEv ph d 298 82 L st M = zcont ph d 298 (zstep ph (zEm ph d) 90 83 0 [] L st M) := zEv_step rfl
theorem e298_83 (ph : Bool) (d : Nat) (L st : List zV) (M : zM) : zEv ph d 298 83 L st M = zcont ph d 298 (zstep ph (zEm ph d) 8 86 0 [2, 1] L st M) := zEv_step rfl
theorem e298_86 (ph : Bool) (d : Nat) (L st : List zV) (M : zM) : zEv ph d 298 86 L st M = zcont ph d 298 (zstep ph (zEm ph d) 52 89 60 [] L st M) := zEv_step rfl
theorem e298_89 (ph : Bool) (d : Nat) (L st : List zV) (M : zM) : zEv ph d 298 89 L st M = zcont ph d 298 (zstep ph (zEm ph d) 4 90 0 [0] L st M) := zEv_step rfl
theorem e298_90 (ph : Bool) (d : Nat) (L st : List zV) (M : zM) : zEv ph d 298 90 L st M = zcont ph d 298 (zstep ph (zEm ph d) 0 91 0 [0] L st M) := zEv_step rfl
theorem e298_91 (ph : Bool) (d : Nat) (L st : List zV) (M : zM) : zEv ph d 298 91 L st M = zcont ph d 298 (zstep ph (zEm ph d) 65 94 0 [30, 24] L st M) := zEv_step rfl
theorem e298_94 (ph : Bool) (d : Nat) (L st : List zV) (M : zM) : zEv ph d 298 94 L st M = zcont ph d 298 (zstep ph (zEm ph d) 0 95 0 [1] L st M) := zEv_step rfl
theorem e298_95 (ph : Bool) (d : Nat) (L st : List zV) (M : zM) : zEv ph d 298 95 L st M = zcont ph d 298 (zstep ph (zEm ph d) 80 96 0 [0, 1] L st M) := zEv_step rfl
theorem r_imgA (d : Nat) (z0 k y : Int) (k0 : 0 ≤ k) (k1 : k ≤ 1) (M : zM) : ∀ (m : Nat) (i : Int) (N : zM), i + m = 368 → 0 ≤ i → (∀ x y, ¬ (x = 201 ∧ 368 * k ≤ y ∧ y < 368 * k + 368) → N x y = M x y) → (∀ a, 0 ≤ a → a < i → N 201 (368 * k + a) = M 199 a) → ∃ N', zEv true (d + 7) 297 18 [(30, 197, z0), (0, k, y), (0, i, 0)] [] N = zEv true (d + 7) 297 51 [(30, 197, z0), (0, k, y), (0, 0, 0)] [] N' ∧ (∀ x y, ¬ (x = 201 ∧ 368 * k ≤ y ∧ y < 368 * k + 368) → N' x y = M x y) ∧ ∀ a, 0 ≤ a → a < 368 → N' 201 (368 * k + a) = M 199 a
  | 0, i, N, hm, i0, h1, h2 => by
    refine ⟨N, ?_, h1, fun a a0 a1 => h2 a a0 (by omega)⟩
    rw [e297_18]
    simp (disch := first | assumption | exact zrm0 | exact zrm1 _ | exact zrm2 _ _ | exact zrm3 _ _ _ | exact zrm4 _ _ _ _ | omega) only [m297, ↓k_dp, ↓k_dn, k_dp, k_dn, k_dT, k_dF, k_ip, k_in, if_true, if_false, ne_eq, not_true_eq_false, not_false_eq_true, Int.reduceAdd, zup_a, zup_e, zup_j, z32_id, k_al0, k_ic, k_pI, k_il1, k_s3r, k_ifne, k_rz, k_is2, k_il2, k_icge, k_gR, k_imul, k_iadd, k_ild, k_ildS, k_ildW, k_ist, k_inc2, k_goto, k_lld, k_lst, k_bstZ, k_bstB, zb0_some, zb1_some, e297_0, e297_1, e297_2, e297_5, e297_6, e297_7, e297_8, e297_11, e297_14, e297_15, e297_16, e297_17, e297_19, e297_22, e297_25, e297_26, e297_29, e297_32, e297_33, e297_34, e297_35, e297_36, e297_37, e297_40, e297_41, e297_42, e297_43, e297_46, e297_49, e297_50, e297_52, e297_54, e297_57, e297_58, e297_61, e297_63, e297_64, e297_65, e297_66, e297_67, e297_68, e297_71, e297_72, e297_73, e297_74, e297_77, e297_80, e297_81, e297_84, e297_85, e297_86, e297_87, e297_88]
  | m + 1, i, N, hm, i0, h1, h2 => by
    have hi : N 199 i = M 199 i := h1 _ _ (by omega)
    obtain ⟨N', n1, n2, n3⟩ := r_imgA d z0 k y k0 k1 M m (i + 1) (zup N 201 (368 * k + i) (M 199 i)) (by omega) (by omega) (fun x y h => by
      rw [← h1 x y h]
      unfold zup
      rw [if_neg (by omega)]) (fun a a0 a1 => by
      by_cases c : a = i
      · rw [c, zup_e (by omega)]
      · rw [zup_j (by omega)]
        exact h2 a a0 (by omega))
    refine ⟨N', ?_, n2, n3⟩
    rw [e297_18]
    simp (disch := first | assumption | exact zrm0 | exact zrm1 _ | exact zrm2 _ _ | exact zrm3 _ _ _ | exact zrm4 _ _ _ _ | omega) only [m297, ↓k_dp, ↓k_dn, k_dp, k_dn, k_dT, k_dF, k_ip, k_in, if_true, if_false, ne_eq, not_true_eq_false, not_false_eq_true, Int.reduceAdd, zup_a, zup_e, zup_j, z32_id, k_al0, k_ic, k_pI, k_il1, k_s3r, k_ifne, k_rz, k_is2, k_il2, k_icge, k_gR, k_imul, k_iadd, k_ild, k_ildS, k_ildW, k_ist, k_inc2, k_goto, k_lld, k_lst, k_bstZ, k_bstB, zb0_some, zb1_some, e297_0, e297_1, e297_2, e297_5, e297_6, e297_7, e297_8, e297_11, e297_14, e297_15, e297_16, e297_17, e297_19, e297_22, e297_25, e297_26, e297_29, e297_32, e297_33, e297_34, e297_35, e297_36, e297_37, e297_40, e297_41, e297_42, e297_43, e297_46, e297_49, e297_50, e297_52, e297_54, e297_57, e297_58, e297_61, e297_63, e297_64, e297_65, e297_66, e297_67, e297_68, e297_71, e297_72, e297_73, e297_74, e297_77, e297_80, e297_81, e297_84, e297_85, e297_86, e297_87, e297_88, hi]
    exact n1
theorem r_imgB (d : Nat) (z0 k y : Int) (k0 : 0 ≤ k) (k1 : k ≤ 1) (M : zM) : ∀ (m : Nat) (i : Int) (N : zM), i + m = 20 → 0 ≤ i → (∀ x y, ¬ (x = 206 ∧ 20 * k ≤ y ∧ y < 20 * k + 20) → N x y = M x y) → (∀ a, 0 ≤ a → a < i → N 206 (20 * k + a) = M 204 a) → ∃ N', zEv true (d + 7) 297 51 [(30, 197, z0), (0, k, y), (0, i, 0)] [] N = some ((0, 1, 0), zup N' 207 k 1) ∧ (∀ x y, ¬ (x = 206 ∧ 20 * k ≤ y ∧ y < 20 * k + 20) → N' x y = M x y) ∧ ∀ a, 0 ≤ a → a < 20 → N' 206 (20 * k + a) = M 204 a
  | 0, i, N, hm, i0, h1, h2 => by
    refine ⟨N, ?_, h1, fun a a0 a1 => h2 a a0 (by omega)⟩
    rw [e297_51]
    simp (disch := first | assumption | exact zrm0 | exact zrm1 _ | exact zrm2 _ _ | exact zrm3 _ _ _ | exact zrm4 _ _ _ _ | omega) only [m297, ↓k_dp, ↓k_dn, k_dp, k_dn, k_dT, k_dF, k_ip, k_in, if_true, if_false, ne_eq, not_true_eq_false, not_false_eq_true, Int.reduceAdd, zup_a, zup_e, zup_j, z32_id, k_al0, k_ic, k_pI, k_il1, k_s3r, k_ifne, k_rz, k_is2, k_il2, k_icge, k_gR, k_imul, k_iadd, k_ild, k_ildS, k_ildW, k_ist, k_inc2, k_goto, k_lld, k_lst, k_bstZ, k_bstB, zb0_some, zb1_some, e297_0, e297_1, e297_2, e297_5, e297_6, e297_7, e297_8, e297_11, e297_14, e297_15, e297_16, e297_17, e297_18, e297_19, e297_22, e297_25, e297_26, e297_29, e297_32, e297_33, e297_34, e297_35, e297_36, e297_37, e297_40, e297_41, e297_42, e297_43, e297_46, e297_49, e297_50, e297_52, e297_54, e297_57, e297_58, e297_61, e297_63, e297_64, e297_65, e297_66, e297_67, e297_68, e297_71, e297_72, e297_73, e297_74, e297_77, e297_80, e297_81, e297_84, e297_85, e297_86, e297_87, e297_88]
  | m + 1, i, N, hm, i0, h1, h2 => by
    have hi : N 204 i = M 204 i := h1 _ _ (by omega)
    obtain ⟨N', n1, n2, n3⟩ := r_imgB d z0 k y k0 k1 M m (i + 1) (zup N 206 (20 * k + i) (M 204 i)) (by omega) (by omega) (fun x y h => by
      rw [← h1 x y h]
      unfold zup
      rw [if_neg (by omega)]) (fun a a0 a1 => by
      by_cases c : a = i
      · rw [c, zup_e (by omega)]
      · rw [zup_j (by omega)]
        exact h2 a a0 (by omega))
    refine ⟨N', ?_, n2, n3⟩
    rw [e297_51]
    simp (disch := first | assumption | exact zrm0 | exact zrm1 _ | exact zrm2 _ _ | exact zrm3 _ _ _ | exact zrm4 _ _ _ _ | omega) only [m297, ↓k_dp, ↓k_dn, k_dp, k_dn, k_dT, k_dF, k_ip, k_in, if_true, if_false, ne_eq, not_true_eq_false, not_false_eq_true, Int.reduceAdd, zup_a, zup_e, zup_j, z32_id, k_al0, k_ic, k_pI, k_il1, k_s3r, k_ifne, k_rz, k_is2, k_il2, k_icge, k_gR, k_imul, k_iadd, k_ild, k_ildS, k_ildW, k_ist, k_inc2, k_goto, k_lld, k_lst, k_bstZ, k_bstB, zb0_some, zb1_some, e297_0, e297_1, e297_2, e297_5, e297_6, e297_7, e297_8, e297_11, e297_14, e297_15, e297_16, e297_17, e297_18, e297_19, e297_22, e297_25, e297_26, e297_29, e297_32, e297_33, e297_34, e297_35, e297_36, e297_37, e297_40, e297_41, e297_42, e297_43, e297_46, e297_49, e297_50, e297_52, e297_54, e297_57, e297_58, e297_61, e297_63, e297_64, e297_65, e297_66, e297_67, e297_68, e297_71, e297_72, e297_73, e297_74, e297_77, e297_80, e297_81, e297_84, e297_85, e297_86, e297_87, e297_88, hi]
    exact n1
theorem r_image (d : Nat) (z0 k y : Int) (M : zM) : (¬ (0 ≤ k ∧ k ≤ 1) → zEm true (d + 8) 297 [(30, 197, z0), (0, k, y)] M = some ((0, 0, 0), zup M 197 0 0)) ∧ ((0 ≤ k ∧ k ≤ 1) → ∃ N, zEm true (d + 8) 297 [(30, 197, z0), (0, k, y)] M = some ((0, 1, 0), N) ∧ N 207 k = 1 ∧ (∀ a, 0 ≤ a → a < 368 → N 201 (368 * k + a) = M 199 a) ∧ (∀ a, 0 ≤ a → a < 20 → N 206 (20 * k + a) = M 204 a) ∧ ∀ x y, ¬ (x = 197 ∧ y = 0) → ¬ (x = 207 ∧ y = k) → ¬ (x = 201 ∧ 368 * k ≤ y ∧ y < 368 * k + 368) → ¬ (x = 206 ∧ 20 * k ≤ y ∧ y < 20 * k + 20) → N x y = M x y) := by
  refine ⟨fun c => ?_, fun c => ?_⟩
  · simp (disch := first | assumption | exact zrm0 | exact zrm1 _ | exact zrm2 _ _ | exact zrm3 _ _ _ | exact zrm4 _ _ _ _ | omega) only [m297, ↓k_dp, ↓k_dn, k_dp, k_dn, k_dT, k_dF, k_ip, k_in, if_true, if_false, ne_eq, not_true_eq_false, not_false_eq_true, Int.reduceAdd, zup_a, zup_e, zup_j, z32_id, k_al0, k_ic, k_pI, k_il1, k_s3r, k_ifne, k_rz, k_is2, k_il2, k_icge, k_gR, k_imul, k_iadd, k_ild, k_ildS, k_ildW, k_ist, k_inc2, k_goto, k_lld, k_lst, k_bstZ, k_bstB, zb0_some, zb1_some, e297_0, e297_1, e297_2, e297_5, e297_6, e297_7, e297_8, e297_11, e297_14, e297_15, e297_16, e297_17, e297_19, e297_22, e297_25, e297_26, e297_29, e297_32, e297_33, e297_34, e297_35, e297_36, e297_37, e297_40, e297_41, e297_42, e297_43, e297_46, e297_49, e297_50, e297_51, e297_52, e297_54, e297_57, e297_58, e297_61, e297_63, e297_64, e297_65, e297_66, e297_67, e297_68, e297_71, e297_72, e297_73, e297_74, e297_77, e297_80, e297_81, e297_84, e297_85, e297_86, e297_87, e297_88, r_isIn, if_neg c]
  obtain ⟨A, a1, a2, a3⟩ := r_imgA d z0 k y c.1 c.2 (zup M 197 0 0) 368 0 (zup M 197 0 0) (by omega) (by omega) (fun _ _ _ => rfl) (fun a h0 h1 => by omega)
  obtain ⟨B, b1, b2, b3⟩ := r_imgB d z0 k y c.1 c.2 A 20 0 A (by omega) (by omega) (fun _ _ _ => rfl) (fun a h0 h1 => by omega)
  refine ⟨zup B 207 k 1, ?_, zup_e (by omega), fun a h0 h1 => ?_, fun a h0 h1 => ?_, fun x y h1 h2 h3 h4 => ?_⟩
  · simp (disch := first | assumption | exact zrm0 | exact zrm1 _ | exact zrm2 _ _ | exact zrm3 _ _ _ | exact zrm4 _ _ _ _ | omega) only [m297, ↓k_dp, ↓k_dn, k_dp, k_dn, k_dT, k_dF, k_ip, k_in, if_true, if_false, ne_eq, not_true_eq_false, not_false_eq_true, Int.reduceAdd, zup_a, zup_e, zup_j, z32_id, k_al0, k_ic, k_pI, k_il1, k_s3r, k_ifne, k_rz, k_is2, k_il2, k_icge, k_gR, k_imul, k_iadd, k_ild, k_ildS, k_ildW, k_ist, k_inc2, k_goto, k_lld, k_lst, k_bstZ, k_bstB, zb0_some, zb1_some, e297_0, e297_1, e297_2, e297_5, e297_6, e297_7, e297_8, e297_11, e297_14, e297_15, e297_16, e297_17, e297_19, e297_22, e297_25, e297_26, e297_29, e297_32, e297_33, e297_34, e297_35, e297_36, e297_37, e297_40, e297_41, e297_42, e297_43, e297_46, e297_49, e297_50, e297_51, e297_52, e297_54, e297_57, e297_58, e297_61, e297_63, e297_64, e297_65, e297_66, e297_67, e297_68, e297_71, e297_72, e297_73, e297_74, e297_77, e297_80, e297_81, e297_84, e297_85, e297_86, e297_87, e297_88, r_isIn, if_pos c]
    rw [a1, b1]
  · rw [zup_a (by omega), b2 _ _ (by omega), a3 a h0 h1, zup_a (by omega)]
  · rw [zup_a (by omega), b3 a h0 h1, a2 _ _ (by omega), zup_a (by omega)]
  · unfold zup at a2 ⊢
    rw [if_neg (by omega), b2 x y h4, a2 x y h3, if_neg (by omega)]
