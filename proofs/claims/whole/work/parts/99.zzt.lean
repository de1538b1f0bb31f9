/-! a sentence, whole: the pair -/
theorem m41 (ph : Bool) (d : Nat) (a x0 : Int) (M : zM) : zEm ph (d + 1) 41 [(29, a, x0)] M = zEv ph d 41 0 [(29, a, x0), (3, 0, 0)] [] M := rfl
theorem e41_0 (ph : Bool) (d : Nat) (L st : List zV) (M : zM) : zEv ph d 41 0 L st M = zcont ph d 41 (zstep ph (zEm ph d) 4 1 0 [0] L st M) := zEv_step rfl
theorem e41_1 (ph : Bool) (d : Nat) (L st : List zV) (M : zM) : zEv ph d 41 1 L st M = zcont ph d 41 (zstep ph (zEm ph d) 62 4 0 [29, 0, 1, 24, 0] L st M) := zEv_step rfl
theorem e41_4 (ph : Bool) (d : Nat) (L st : List zV) (M : zM) : zEv ph d 41 4 L st M = zcont ph d 41 (zstep ph (zEm ph d) 4 5 0 [0] L st M) := zEv_step rfl
theorem e41_5 (ph : Bool) (d : Nat) (L st : List zV) (M : zM) : zEv ph d 41 5 L st M = zcont ph d 41 (zstep ph (zEm ph d) 62 8 0 [29, 2, 30, 28, 0] L st M) := zEv_step rfl
theorem e41_8 (ph : Bool) (d : Nat) (L st : List zV) (M : zM) : zEv ph d 41 8 L st M = zcont ph d 41 (zstep ph (zEm ph d) 70 11 91 [2, 1, 24] L st M) := zEv_step rfl
theorem e41_11 (ph : Bool) (d : Nat) (L st : List zV) (M : zM) : zEv ph d 41 11 L st M = zcont ph d 41 (zstep ph (zEm ph d) 5 12 0 [1] L st M) := zEv_step rfl
theorem e41_12 (ph : Bool) (d : Nat) (L st : List zV) (M : zM) : zEv ph d 41 12 L st M = zcont ph d 41 (zstep ph (zEm ph d) 4 13 0 [0] L st M) := zEv_step rfl
theorem e41_13 (ph : Bool) (d : Nat) (L st : List zV) (M : zM) : zEv ph d 41 13 L st M = zcont ph d 41 (zstep ph (zEm ph d) 62 16 0 [29, 1, 2, 27, 0] L st M) := zEv_step rfl
theorem e41_16 (ph : Bool) (d : Nat) (L st : List zV) (M : zM) : zEv ph d 41 16 L st M = zcont ph d 41 (zstep ph (zEm ph d) 0 17 0 [0] L st M) := zEv_step rfl
theorem e41_17 (ph : Bool) (d : Nat) (L st : List zV) (M : zM) : zEv ph d 41 17 L st M = zcont ph d 41 (zstep ph (zEm ph d) 65 20 0 [27, 1] L st M) := zEv_step rfl
theorem e41_20 (ph : Bool) (d : Nat) (L st : List zV) (M : zM) : zEv ph d 41 20 L st M = zcont ph d 41 (zstep ph (zEm ph d) 4 21 0 [0] L st M) := zEv_step rfl
theorem e41_21 (ph : Bool) (d : Nat) (L st : List zV) (M : zM) : zEv ph d 41 21 L st M = zcont ph d 41 (zstep ph (zEm ph d) 62 24 0 [29, 5, 51, 22, 0] L st M) := zEv_step rfl
theorem e41_24 (ph : Bool) (d : Nat) (L st : List zV) (M : zM) : zEv ph d 41 24 L st M = zcont ph d 41 (zstep ph (zEm ph d) 4 25 0 [0] L st M) := zEv_step rfl
theorem e41_25 (ph : Bool) (d : Nat) (L st : List zV) (M : zM) : zEv ph d 41 25 L st M = zcont ph d 41 (zstep ph (zEm ph d) 62 28 0 [29, 1, 2, 27, 0] L st M) := zEv_step rfl
theorem e41_28 (ph : Bool) (d : Nat) (L st : List zV) (M : zM) : zEv ph d 41 28 L st M = zcont ph d 41 (zstep ph (zEm ph d) 60 31 0 [27, 10] L st M) := zEv_step rfl
theorem e41_31 (ph : Bool) (d : Nat) (L st : List zV) (M : zM) : zEv ph d 41 31 L st M = zcont ph d 41 (zstep ph (zEm ph d) 65 34 0 [22, 0] L st M) := zEv_step rfl
theorem e41_34 (ph : Bool) (d : Nat) (L st : List zV) (M : zM) : zEv ph d 41 34 L st M = zcont ph d 41 (zstep ph (zEm ph d) 2 35 0 [1] L st M) := zEv_step rfl
theorem e41_35 (ph : Bool) (d : Nat) (L st : List zV) (M : zM) : zEv ph d 41 35 L st M = zcont ph d 41 (zstep ph (zEm ph d) 41 38 48 [] L st M) := zEv_step rfl
theorem e41_38 (ph : Bool) (d : Nat) (L st : List zV) (M : zM) : zEv ph d 41 38 L st M = zcont ph d 41 (zstep ph (zEm ph d) 0 39 0 [-1] L st M) := zEv_step rfl
theorem e41_39 (ph : Bool) (d : Nat) (L st : List zV) (M : zM) : zEv ph d 41 39 L st M = zcont ph d 41 (zstep ph (zEm ph d) 4 40 0 [0] L st M) := zEv_step rfl
theorem e41_40 (ph : Bool) (d : Nat) (L st : List zV) (M : zM) : zEv ph d 41 40 L st M = zcont ph d 41 (zstep ph (zEm ph d) 62 43 0 [29, 1, 2, 27, 0] L st M) := zEv_step rfl
theorem e41_43 (ph : Bool) (d : Nat) (L st : List zV) (M : zM) : zEv ph d 41 43 L st M = zcont ph d 41 (zstep ph (zEm ph d) 60 46 0 [27, 11] L st M) := zEv_step rfl
theorem e41_46 (ph : Bool) (d : Nat) (L st : List zV) (M : zM) : zEv ph d 41 46 L st M = zcont ph d 41 (zstep ph (zEm ph d) 11 47 0 [] L st M) := zEv_step rfl
theorem e41_47 (ph : Bool) (d : Nat) (L st : List zV) (M : zM) : zEv ph d 41 47 L st M = zcont ph d 41 (zstep ph (zEm ph d) 80 48 0 [] L st M) := zEv_step rfl
theorem e41_48 (ph : Bool) (d : Nat) (L st : List zV) (M : zM) : zEv ph d 41 48 L st M = zcont ph d 41 (zstep ph (zEm ph d) 4 49 0 [0] L st M) := zEv_step rfl
theorem e41_49 (ph : Bool) (d : Nat) (L st : List zV) (M : zM) : zEv ph d 41 49 L st M = zcont ph d 41 (zstep ph (zEm ph d) 62 52 0 [29, 4, 46, 25, 0] L st M) := zEv_step rfl
theorem e41_52 (ph : Bool) (d : Nat) (L st : List zV) (M : zM) : zEv ph d 41 52 L st M = zcont ph d 41 (zstep ph (zEm ph d) 4 53 0 [0] L st M) := zEv_step rfl
theorem e41_53 (ph : Bool) (d : Nat) (L st : List zV) (M : zM) : zEv ph d 41 53 L st M = zcont ph d 41 (zstep ph (zEm ph d) 62 56 0 [29, 0, 1, 24, 0] L st M) := zEv_step rfl
theorem e41_56 (ph : Bool) (d : Nat) (L st : List zV) (M : zM) : zEv ph d 41 56 L st M = zcont ph d 41 (zstep ph (zEm ph d) 62 59 0 [24, 3, 19, 25, 0] L st M) := zEv_step rfl
theorem e41_59 (ph : Bool) (d : Nat) (L st : List zV) (M : zM) : zEv ph d 41 59 L st M = zcont ph d 41 (zstep ph (zEm ph d) 70 62 105 [2, 0, 25] L st M) := zEv_step rfl
theorem e41_62 (ph : Bool) (d : Nat) (L st : List zV) (M : zM) : zEv ph d 41 62 L st M = zcont ph d 41 (zstep ph (zEm ph d) 4 63 0 [0] L st M) := zEv_step rfl
theorem e41_63 (ph : Bool) (d : Nat) (L st : List zV) (M : zM) : zEv ph d 41 63 L st M = zcont ph d 41 (zstep ph (zEm ph d) 62 66 0 [29, 4, 46, 25, 0] L st M) := zEv_step rfl
theorem e41_66 (ph : Bool) (d : Nat) (L st : List zV) (M : zM) : zEv ph d 41 66 L st M = zcont ph d 41 (zstep ph (zEm ph d) 60 69 0 [25, 5] L st M) := zEv_step rfl
theorem e41_69 (ph : Bool) (d : Nat) (L st : List zV) (M : zM) : zEv ph d 41 69 L st M = zcont ph d 41 (zstep ph (zEm ph d) 80 70 0 [] L st M) := zEv_step rfl
theorem m294 (ph : Bool) (d : Nat) (a x0 : Int) (M : zM) : zEm ph (d + 1) 294 [(30, a, x0)] M = zEv ph d 294 0 [(30, a, x0), (3, 0, 0)] [] M := rfl
theorem e294_0 (ph : Bool) (d : Nat) (L st : List zV) (M : zM) : zEv ph d 294 0 L st M = zcont ph d 294 (zstep ph (zEm ph d) 4 1 0 [0] L st M) := zEv_step rfl
theorem e294_1 (ph : Bool) (d : Nat) (L st : List zV) (M : zM) : zEv ph d 294 1 L st M = zcont ph d 294 (zstep ph (zEm ph d) 0 4 0 [200] L st M) := zEv_step rfl
theorem e294_4 (ph : Bool) (d : Nat) (L st : List zV) (M : zM) : zEv ph d 294 4 L st M = zcont ph d 294 (zstep ph (zEm ph d) 70 7 185 [2, 0, 30] L st M) := zEv_step rfl
theorem e294_7 (ph : Bool) (d : Nat) (L st : List zV) (M : zM) : zEv ph d 294 7 L st M = zcont ph d 294 (zstep ph (zEm ph d) 4 8 0 [0] L st M) := zEv_step rfl
theorem e294_8 (ph : Bool) (d : Nat) (L st : List zV) (M : zM) : zEv ph d 294 8 L st M = zcont ph d 294 (zstep ph (zEm ph d) 0 9 0 [0] L st M) := zEv_step rfl
theorem e294_9 (ph : Bool) (d : Nat) (L st : List zV) (M : zM) : zEv ph d 294 9 L st M = zcont ph d 294 (zstep ph (zEm ph d) 65 12 0 [30, 46] L st M) := zEv_step rfl
theorem e294_12 (ph : Bool) (d : Nat) (L st : List zV) (M : zM) : zEv ph d 294 12 L st M = zcont ph d 294 (zstep ph (zEm ph d) 4 13 0 [0] L st M) := zEv_step rfl
theorem e294_13 (ph : Bool) (d : Nat) (L st : List zV) (M : zM) : zEv ph d 294 13 L st M = zcont ph d 294 (zstep ph (zEm ph d) 0 14 0 [0] L st M) := zEv_step rfl
theorem e294_14 (ph : Bool) (d : Nat) (L st : List zV) (M : zM) : zEv ph d 294 14 L st M = zcont ph d 294 (zstep ph (zEm ph d) 65 17 0 [30, 47] L st M) := zEv_step rfl
theorem e294_17 (ph : Bool) (d : Nat) (L st : List zV) (M : zM) : zEv ph d 294 17 L st M = zcont ph d 294 (zstep ph (zEm ph d) 4 18 0 [0] L st M) := zEv_step rfl
theorem e294_18 (ph : Bool) (d : Nat) (L st : List zV) (M : zM) : zEv ph d 294 18 L st M = zcont ph d 294 (zstep ph (zEm ph d) 0 19 0 [0] L st M) := zEv_step rfl
theorem e294_19 (ph : Bool) (d : Nat) (L st : List zV) (M : zM) : zEv ph d 294 19 L st M = zcont ph d 294 (zstep ph (zEm ph d) 65 22 0 [30, 48] L st M) := zEv_step rfl
theorem e294_22 (ph : Bool) (d : Nat) (L st : List zV) (M : zM) : zEv ph d 294 22 L st M = zcont ph d 294 (zstep ph (zEm ph d) 4 23 0 [0] L st M) := zEv_step rfl
theorem e294_23 (ph : Bool) (d : Nat) (L st : List zV) (M : zM) : zEv ph d 294 23 L st M = zcont ph d 294 (zstep ph (zEm ph d) 70 26 287 [1, 1, 30] L st M) := zEv_step rfl
theorem e294_26 (ph : Bool) (d : Nat) (L st : List zV) (M : zM) : zEv ph d 294 26 L st M = zcont ph d 294 (zstep ph (zEm ph d) 41 29 36 [] L st M) := zEv_step rfl
theorem e294_29 (ph : Bool) (d : Nat) (L st : List zV) (M : zM) : zEv ph d 294 29 L st M = zcont ph d 294 (zstep ph (zEm ph d) 0 30 0 [-1] L st M) := zEv_step rfl
theorem e294_30 (ph : Bool) (d : Nat) (L st : List zV) (M : zM) : zEv ph d 294 30 L st M = zcont ph d 294 (zstep ph (zEm ph d) 4 31 0 [0] L st M) := zEv_step rfl
theorem e294_31 (ph : Bool) (d : Nat) (L st : List zV) (M : zM) : zEv ph d 294 31 L st M = zcont ph d 294 (zstep ph (zEm ph d) 60 34 0 [30, 11] L st M) := zEv_step rfl
theorem e294_34 (ph : Bool) (d : Nat) (L st : List zV) (M : zM) : zEv ph d 294 34 L st M = zcont ph d 294 (zstep ph (zEm ph d) 11 35 0 [] L st M) := zEv_step rfl
theorem e294_35 (ph : Bool) (d : Nat) (L st : List zV) (M : zM) : zEv ph d 294 35 L st M = zcont ph d 294 (zstep ph (zEm ph d) 80 36 0 [] L st M) := zEv_step rfl
theorem e294_36 (ph : Bool) (d : Nat) (L st : List zV) (M : zM) : zEv ph d 294 36 L st M = zcont ph d 294 (zstep ph (zEm ph d) 4 37 0 [0] L st M) := zEv_step rfl
theorem e294_37 (ph : Bool) (d : Nat) (L st : List zV) (M : zM) : zEv ph d 294 37 L st M = zcont ph d 294 (zstep ph (zEm ph d) 60 40 0 [30, 7] L st M) := zEv_step rfl
theorem e294_40 (ph : Bool) (d : Nat) (L st : List zV) (M : zM) : zEv ph d 294 40 L st M = zcont ph d 294 (zstep ph (zEm ph d) 40 43 56 [] L st M) := zEv_step rfl
theorem e294_43 (ph : Bool) (d : Nat) (L st : List zV) (M : zM) : zEv ph d 294 43 L st M = zcont ph d 294 (zstep ph (zEm ph d) 4 44 0 [0] L st M) := zEv_step rfl
theorem e294_44 (ph : Bool) (d : Nat) (L st : List zV) (M : zM) : zEv ph d 294 44 L st M = zcont ph d 294 (zstep ph (zEm ph d) 0 45 0 [1] L st M) := zEv_step rfl
theorem e294_45 (ph : Bool) (d : Nat) (L st : List zV) (M : zM) : zEv ph d 294 45 L st M = zcont ph d 294 (zstep ph (zEm ph d) 70 48 182 [2, 1, 30] L st M) := zEv_step rfl
theorem e294_48 (ph : Bool) (d : Nat) (L st : List zV) (M : zM) : zEv ph d 294 48 L st M = zcont ph d 294 (zstep ph (zEm ph d) 38 49 0 [] L st M) := zEv_step rfl
theorem e294_49 (ph : Bool) (d : Nat) (L st : List zV) (M : zM) : zEv ph d 294 49 L st M = zcont ph d 294 (zstep ph (zEm ph d) 0 50 0 [-1] L st M) := zEv_step rfl
theorem e294_50 (ph : Bool) (d : Nat) (L st : List zV) (M : zM) : zEv ph d 294 50 L st M = zcont ph d 294 (zstep ph (zEm ph d) 4 51 0 [0] L st M) := zEv_step rfl
theorem e294_51 (ph : Bool) (d : Nat) (L st : List zV) (M : zM) : zEv ph d 294 51 L st M = zcont ph d 294 (zstep ph (zEm ph d) 60 54 0 [30, 11] L st M) := zEv_step rfl
theorem e294_54 (ph : Bool) (d : Nat) (L st : List zV) (M : zM) : zEv ph d 294 54 L st M = zcont ph d 294 (zstep ph (zEm ph d) 11 55 0 [] L st M) := zEv_step rfl
theorem e294_55 (ph : Bool) (d : Nat) (L st : List zV) (M : zM) : zEv ph d 294 55 L st M = zcont ph d 294 (zstep ph (zEm ph d) 80 56 0 [] L st M) := zEv_step rfl
theorem e294_56 (ph : Bool) (d : Nat) (L st : List zV) (M : zM) : zEv ph d 294 56 L st M = zcont ph d 294 (zstep ph (zEm ph d) 4 57 0 [0] L st M) := zEv_step rfl
theorem e294_57 (ph : Bool) (d : Nat) (L st : List zV) (M : zM) : zEv ph d 294 57 L st M = zcont ph d 294 (zstep ph (zEm ph d) 62 60 0 [30, 14, 2, 10, 368] L st M) := zEv_step rfl
theorem e294_60 (ph : Bool) (d : Nat) (L st : List zV) (M : zM) : zEv ph d 294 60 L st M = zcont ph d 294 (zstep ph (zEm ph d) 0 62 0 [126] L st M) := zEv_step rfl
theorem e294_62 (ph : Bool) (d : Nat) (L st : List zV) (M : zM) : zEv ph d 294 62 L st M = zcont ph d 294 (zstep ph (zEm ph d) 0 63 0 [1] L st M) := zEv_step rfl
theorem e294_63 (ph : Bool) (d : Nat) (L st : List zV) (M : zM) : zEv ph d 294 63 L st M = zcont ph d 294 (zstep ph (zEm ph d) 89 64 0 [] L st M) := zEv_step rfl
theorem e294_64 (ph : Bool) (d : Nat) (L st : List zV) (M : zM) : zEv ph d 294 64 L st M = zcont ph d 294 (zstep ph (zEm ph d) 4 65 0 [0] L st M) := zEv_step rfl
theorem e294_65 (ph : Bool) (d : Nat) (L st : List zV) (M : zM) : zEv ph d 294 65 L st M = zcont ph d 294 (zstep ph (zEm ph d) 62 68 0 [30, 14, 2, 10, 368] L st M) := zEv_step rfl
theorem e294_68 (ph : Bool) (d : Nat) (L st : List zV) (M : zM) : zEv ph d 294 68 L st M = zcont ph d 294 (zstep ph (zEm ph d) 0 70 0 [127] L st M) := zEv_step rfl
theorem e294_70 (ph : Bool) (d : Nat) (L st : List zV) (M : zM) : zEv ph d 294 70 L st M = zcont ph d 294 (zstep ph (zEm ph d) 4 71 0 [0] L st M) := zEv_step rfl
theorem e294_71 (ph : Bool) (d : Nat) (L st : List zV) (M : zM) : zEv ph d 294 71 L st M = zcont ph d 294 (zstep ph (zEm ph d) 60 74 0 [30, 49] L st M) := zEv_step rfl
theorem e294_74 (ph : Bool) (d : Nat) (L st : List zV) (M : zM) : zEv ph d 294 74 L st M = zcont ph d 294 (zstep ph (zEm ph d) 89 75 0 [] L st M) := zEv_step rfl
theorem e294_75 (ph : Bool) (d : Nat) (L st : List zV) (M : zM) : zEv ph d 294 75 L st M = zcont ph d 294 (zstep ph (zEm ph d) 0 76 0 [0] L st M) := zEv_step rfl
theorem e294_76 (ph : Bool) (d : Nat) (L st : List zV) (M : zM) : zEv ph d 294 76 L st M = zcont ph d 294 (zstep ph (zEm ph d) 5 77 0 [1] L st M) := zEv_step rfl
theorem e294_77 (ph : Bool) (d : Nat) (L st : List zV) (M : zM) : zEv ph d 294 77 L st M = zcont ph d 294 (zstep ph (zEm ph d) 2 78 0 [1] L st M) := zEv_step rfl
theorem e294_78 (ph : Bool) (d : Nat) (L st : List zV) (M : zM) : zEv ph d 294 78 L st M = zcont ph d 294 (zstep ph (zEm ph d) 0 81 0 [240] L st M) := zEv_step rfl
theorem e294_81 (ph : Bool) (d : Nat) (L st : List zV) (M : zM) : zEv ph d 294 81 L st M = zcont ph d 294 (zstep ph (zEm ph d) 49 84 106 [] L st M) := zEv_step rfl
theorem e294_84 (ph : Bool) (d : Nat) (L st : List zV) (M : zM) : zEv ph d 294 84 L st M = zcont ph d 294 (zstep ph (zEm ph d) 4 85 0 [0] L st M) := zEv_step rfl
theorem e294_85 (ph : Bool) (d : Nat) (L st : List zV) (M : zM) : zEv ph d 294 85 L st M = zcont ph d 294 (zstep ph (zEm ph d) 62 88 0 [30, 14, 2, 10, 368] L st M) := zEv_step rfl
theorem e294_88 (ph : Bool) (d : Nat) (L st : List zV) (M : zM) : zEv ph d 294 88 L st M = zcont ph d 294 (zstep ph (zEm ph d) 0 91 0 [128] L st M) := zEv_step rfl
theorem e294_91 (ph : Bool) (d : Nat) (L st : List zV) (M : zM) : zEv ph d 294 91 L st M = zcont ph d 294 (zstep ph (zEm ph d) 2 92 0 [1] L st M) := zEv_step rfl
theorem e294_92 (ph : Bool) (d : Nat) (L st : List zV) (M : zM) : zEv ph d 294 92 L st M = zcont ph d 294 (zstep ph (zEm ph d) 10 93 0 [] L st M) := zEv_step rfl
theorem e294_93 (ph : Bool) (d : Nat) (L st : List zV) (M : zM) : zEv ph d 294 93 L st M = zcont ph d 294 (zstep ph (zEm ph d) 4 94 0 [0] L st M) := zEv_step rfl
theorem e294_94 (ph : Bool) (d : Nat) (L st : List zV) (M : zM) : zEv ph d 294 94 L st M = zcont ph d 294 (zstep ph (zEm ph d) 62 97 0 [30, 45, 21, 10, 240] L st M) := zEv_step rfl
theorem e294_97 (ph : Bool) (d : Nat) (L st : List zV) (M : zM) : zEv ph d 294 97 L st M = zcont ph d 294 (zstep ph (zEm ph d) 2 98 0 [1] L st M) := zEv_step rfl
theorem e294_98 (ph : Bool) (d : Nat) (L st : List zV) (M : zM) : zEv ph d 294 98 L st M = zcont ph d 294 (zstep ph (zEm ph d) 85 99 0 [] L st M) := zEv_step rfl
theorem e294_99 (ph : Bool) (d : Nat) (L st : List zV) (M : zM) : zEv ph d 294 99 L st M = zcont ph d 294 (zstep ph (zEm ph d) 89 100 0 [] L st M) := zEv_step rfl
theorem e294_100 (ph : Bool) (d : Nat) (L st : List zV) (M : zM) : zEv ph d 294 100 L st M = zcont ph d 294 (zstep ph (zEm ph d) 8 103 0 [1, 1] L st M) := zEv_step rfl
theorem e294_103 (ph : Bool) (d : Nat) (L st : List zV) (M : zM) : zEv ph d 294 103 L st M = zcont ph d 294 (zstep ph (zEm ph d) 52 106 77 [] L st M) := zEv_step rfl
theorem e294_106 (ph : Bool) (d : Nat) (L st : List zV) (M : zM) : zEv ph d 294 106 L st M = zcont ph d 294 (zstep ph (zEm ph d) 4 107 0 [0] L st M) := zEv_step rfl
theorem e294_107 (ph : Bool) (d : Nat) (L st : List zV) (M : zM) : zEv ph d 294 107 L st M = zcont ph d 294 (zstep ph (zEm ph d) 60 110 0 [30, 47] L st M) := zEv_step rfl
theorem e294_110 (ph : Bool) (d : Nat) (L st : List zV) (M : zM) : zEv ph d 294 110 L st M = zcont ph d 294 (zstep ph (zEm ph d) 80 111 0 [] L st M) := zEv_step rfl
theorem r_copyNode (d : Nat) (z0 : Int) (M : zM) : zEv true d 294 77 [(30, 197, z0), (0, 0, 0)] [] M = some ((0, M 197 47, 0), zcpy M 218 0 199 128 240) := by
  have hl := zfor (ph := true) (d := d) (j := 294) (pc := 77) (fun k U => zup U 199 (128 + k) (U 218 (0 + k))) (fun k _ => 0 ≤ k) (fun k _ => [(30, 197, z0), (0, k, 0)]) (fun U => U) 240
    (fun k b hk hP => ⟨by
      rw [e294_77]
      simp (disch := first | assumption | exact zrm0 | exact zrm1 _ | exact zrm2 _ _ | exact zrm3 _ _ _ | exact zrm4 _ _ _ _ | omega) only [m294, ↓k_dp, ↓k_dn, k_dp, k_dn, k_dT, k_dF, k_ip, k_in, if_true, if_false, ne_eq, not_true_eq_false, not_false_eq_true, Int.reduceAdd, zup_a, zup_e, zup_j, z32_id, k_al0, k_ic, k_v2, k_pI, k_v1r, k_ifne, k_gI, k_isub, k_ri, k_ifeq, k_v2r, k_pop, k_gR, k_ist, k_is1, k_il1, k_icge, k_iadd, k_ild, k_ildS, k_ildW, k_inc1, k_goto, zb0_some, zb1_some, e294_0, e294_1, e294_4, e294_7, e294_8, e294_9, e294_12, e294_13, e294_14, e294_17, e294_18, e294_19, e294_22, e294_23, e294_26, e294_29, e294_30, e294_31, e294_34, e294_35, e294_36, e294_37, e294_40, e294_43, e294_44, e294_45, e294_48, e294_49, e294_50, e294_51, e294_54, e294_55, e294_56, e294_57, e294_60, e294_62, e294_63, e294_64, e294_65, e294_68, e294_70, e294_71, e294_74, e294_75, e294_76, e294_78, e294_81, e294_84, e294_85, e294_88, e294_91, e294_92, e294_93, e294_94, e294_97, e294_98, e294_99, e294_100, e294_103, e294_106, e294_107, e294_110, Int.zero_add], by omega⟩) 240 0 M (by omega) (Int.le_refl _)
  rw [zit_cpy (by omega) (Or.inl (by omega))] at hl
  rw [hl.1]
  have e47 : zcpy M 218 0 199 128 ((240 : Nat) : Int) 197 47 = M 197 47 := zcpy_o (by omega)
  rw [e294_77]
  simp (disch := first | assumption | exact zrm0 | exact zrm1 _ | exact zrm2 _ _ | exact zrm3 _ _ _ | exact zrm4 _ _ _ _ | omega) only [m294, ↓k_dp, ↓k_dn, k_dp, k_dn, k_dT, k_dF, k_ip, k_in, if_true, if_false, ne_eq, not_true_eq_false, not_false_eq_true, Int.reduceAdd, zup_a, zup_e, zup_j, z32_id, k_al0, k_ic, k_v2, k_pI, k_v1r, k_ifne, k_gI, k_isub, k_ri, k_ifeq, k_v2r, k_pop, k_gR, k_ist, k_is1, k_il1, k_icge, k_iadd, k_ild, k_ildS, k_ildW, k_inc1, k_goto, zb0_some, zb1_some, e294_0, e294_1, e294_4, e294_7, e294_8, e294_9, e294_12, e294_13, e294_14, e294_17, e294_18, e294_19, e294_22, e294_23, e294_26, e294_29, e294_30, e294_31, e294_34, e294_35, e294_36, e294_37, e294_40, e294_43, e294_44, e294_45, e294_48, e294_49, e294_50, e294_51, e294_54, e294_55, e294_56, e294_57, e294_60, e294_62, e294_63, e294_64, e294_65, e294_68, e294_70, e294_71, e294_74, e294_75, e294_76, e294_78, e294_81, e294_84, e294_85, e294_88, e294_91, e294_92, e294_93, e294_94, e294_97, e294_98, e294_99, e294_100, e294_103, e294_106, e294_107, e294_110, e47]
  rfl
def zFZ (x y : Int) : Prop := (x = 2 ∧ 1 ≤ y ∧ y ≤ 11) ∨ (x = 20 ∧ (y = 4 ∨ y = 5)) ∨ (21 ≤ x ∧ x ≤ 23) ∨ (46 ≤ x ∧ x ≤ 49) ∨ (x = 51 ∧ y = 0) ∨ (x = 197 ∧ (0 ≤ y ∧ y ≤ 13 ∨ 46 ≤ y ∧ y ≤ 49)) ∨ (x = 199 ∧ 126 ≤ y ∧ y < 368) ∨ x = 218
theorem l_sentence {A B : zM} (ra : relTT A B) (nb : nmB A B) (d e : Nat) (hd : 34 ≤ d) (he : 42 ≤ e) (x0 y0 : Int) : ∃ A' B' v, zEm true (d + 2) 41 [(29, 0, x0)] A = some ((0, v, 0), A') ∧ zEm true (e + 1) 294 [(30, 197, y0)] B = some ((0, v, 0), B') ∧ (∀ x y, ¬ ((x = 2 ∧ 1 ≤ y ∧ y ≤ 11) ∨ (x = 20 ∧ (y = 4 ∨ y = 5)) ∨ (21 ≤ x ∧ x ≤ 23) ∨ (46 ≤ x ∧ x ≤ 49) ∨ (x = 51 ∧ y = 0)) → A' x y = A x y) ∧ (∀ x y, ¬ ((x = 197 ∧ (0 ≤ y ∧ y ≤ 13 ∨ 46 ≤ y ∧ y ≤ 49)) ∨ (x = 199 ∧ 126 ≤ y ∧ y < 368) ∨ x = 218) → B' x y = B x y) ∧ (A' 2 1 = 0 ∧ B' 197 2 = 0 ∧ A' 51 0 = B' 197 10) ∧ (((1 ≤ A' 46 5 ∧ B' 199 126 = 1) ∧ (0 ≤ A' 46 4 ∧ A' 46 4 ≤ 40) ∧ ∃ n, n ≤ 80 ∧ gR (A' 47) (A' 48) (A' 49) (B' 199) n 0 (A' 46 4) (B' 199 127)) ∨ ((∀ x y, 46 ≤ x → x ≤ 49 → A' x y = A x y) ∧ ∀ y, B' 199 y = B 199 y)) := by
  obtain ⟨A0, hA0⟩ : ∃ A0, A0 = zup (zup A 20 4 0) 20 5 0 := ⟨_, rfl⟩
  have fA0 : ∀ x y, ¬ (x = 20 ∧ (y = 4 ∨ y = 5)) → A0 x y = A x y := fun x y z => by rw [hA0, zup_f (by omega), zup_f (by omega)]
  have ra0 : relTT A0 B := by
    obtain ⟨t1, t2, t3⟩ := ra
    refine ⟨by rw [fA0 _ _ (by omega)]; exact t1, by rw [fA0 _ _ (by omega)]; exact t2, fun i i0 i1 => ?_⟩
    rw [fA0 _ _ (by omega)]
    exact t3 i i0 i1
  obtain ⟨A1, B1, a1, a2, a3, a4, a5, a6, a7, a8⟩ := p_begin ra0 (L := 200) (by omega) (by omega) d e (by omega) (by omega) 0 0 y0 0
  obtain ⟨C1, hC1⟩ : ∃ C1, C1 = zup (zup (zup B1 197 46 0) 197 47 0) 197 48 0 := ⟨_, rfl⟩
  have fC1 : ∀ x y, ¬ (x = 197 ∧ 46 ≤ y ∧ y ≤ 48) → C1 x y = B1 x y := fun x y z => by rw [hC1, zup_f (by omega), zup_f (by omega), zup_f (by omega)]
  have hT : tkR A1 C1 := tkR_fr a3 (fun _ _ _ => rfl) (fun x y z => fC1 x y (by omega))
  have nb1 : nmB A1 C1 := nmB_fr nb (fun x y z => by rw [a4 x y (by omega), fA0 x y (by omega)]) (fun x y z => by rw [fC1 x y (by omega), a5 x y (by omega)])
  have hP : snP A1 C1 0 0 8 := by
    refine ⟨?_, ?_, ?_, ?_, ?_⟩
    · rw [a4 _ _ (by omega), hA0, zup_f (by omega), zup_e (by omega)]
    · rw [a4 _ _ (by omega), hA0, zup_e (by omega)]
    · rw [hC1, zup_f (by omega), zup_f (by omega), zup_e (by omega)]
    · rw [hC1, zup_f (by omega), zup_e (by omega)]
    · rw [hC1, zup_e (by omega)]; omega
  obtain ⟨A2, B2, r, b1, b2, b3, b4, b5⟩ := cond_8 A1 C1 0 0 1 d e 0 0 y0 hT nb1 hP (by omega) (by omega) (by omega) (by omega) (by omega) (by omega) hd he
  have fA2 : ∀ x y, ¬ (x = 2 ∧ 2 ≤ y ∧ y ≤ 11) → ¬ (x = 20 ∧ (y = 4 ∨ y = 5)) → ¬ (21 ≤ x ∧ x ≤ 23) → A2 x y = A x y := fun x y z1 z2 z3 => by
    rw [b3 x y (by omega) z2 z3, a4 x y (by omega), fA0 x y z2]
  have fB2 : ∀ x y, ¬ (x = 197 ∧ (0 ≤ y ∧ y ≤ 13 ∨ 46 ≤ y ∧ y ≤ 49)) → x ≠ 218 → B2 x y = B x y := fun x y z1 z2 => by
    rw [b4 x y (by omega) z2, fC1 x y (by omega), a5 x y (by omega)]
  have w2 : B2 197 2 = 0 := by rw [b4 _ _ (by omega) (by omega), fC1 _ _ (by omega)]; exact a7
  have hcl := s_clearN d (by omega) 20 0 A
  rw [← hA0] at hcl
  have hB0 : zEm true (e + 1) 294 [(30, 197, y0)] B = zEv true e 294 22 [(30, 197, y0), (3, 0, 0)] [] C1 := by
    rw [hC1]
    simp (disch := first | assumption | exact zrm0 | exact zrm1 _ | exact zrm2 _ _ | exact zrm3 _ _ _ | exact zrm4 _ _ _ _ | omega) only [m294, ↓k_dp, ↓k_dn, k_dp, k_dn, k_dT, k_dF, k_ip, k_in, if_true, if_false, ne_eq, not_true_eq_false, not_false_eq_true, Int.reduceAdd, zup_a, zup_e, zup_j, z32_id, k_al0, k_ic, k_v2, k_pI, k_v1r, k_ifne, k_gI, k_isub, k_ri, k_ifeq, k_v2r, k_pop, k_gR, k_ist, k_is1, k_il1, k_icge, k_iadd, k_ild, k_ildS, k_ildW, k_inc1, k_goto, zb0_some, zb1_some, e294_0, e294_1, e294_4, e294_7, e294_8, e294_9, e294_12, e294_13, e294_14, e294_17, e294_18, e294_19, e294_23, e294_26, e294_29, e294_30, e294_31, e294_34, e294_35, e294_36, e294_37, e294_40, e294_43, e294_44, e294_45, e294_48, e294_49, e294_50, e294_51, e294_54, e294_55, e294_56, e294_57, e294_60, e294_62, e294_63, e294_64, e294_65, e294_68, e294_70, e294_71, e294_74, e294_75, e294_76, e294_78, e294_81, e294_84, e294_85, e294_88, e294_91, e294_92, e294_93, e294_94, e294_97, e294_98, e294_99, e294_100, e294_103, e294_106, e294_107, e294_110, a2]
  -- a fault: the class's answer and the reference's, from the faults of both
  have fault : ∀ A3 B3 : zM, flR A3 B3 → zEm true (d + 1) 91 [(24, 1, 0), (28, 30, 0)] A = some ((0, 0, 0), A3) → zEv true e 294 22 [(30, 197, y0), (3, 0, 0)] [] C1 = some ((0, -1 - B3 197 11, 0), B3) → (∀ x y, ¬ (x = 2 ∧ 2 ≤ y ∧ y ≤ 11) → ¬ (x = 20 ∧ (y = 4 ∨ y = 5)) → ¬ (21 ≤ x ∧ x ≤ 23) → A3 x y = A x y) → (∀ x y, ¬ (x = 197 ∧ (0 ≤ y ∧ y ≤ 13 ∨ 46 ≤ y ∧ y ≤ 49)) → x ≠ 218 → B3 x y = B x y) → B3 197 2 = 0 → ∃ A' B' v, zEm true (d + 2) 41 [(29, 0, x0)] A = some ((0, v, 0), A') ∧ zEm true (e + 1) 294 [(30, 197, y0)] B = some ((0, v, 0), B') ∧ (∀ x y, ¬ ((x = 2 ∧ 1 ≤ y ∧ y ≤ 11) ∨ (x = 20 ∧ (y = 4 ∨ y = 5)) ∨ (21 ≤ x ∧ x ≤ 23) ∨ (46 ≤ x ∧ x ≤ 49) ∨ (x = 51 ∧ y = 0)) → A' x y = A x y) ∧ (∀ x y, ¬ ((x = 197 ∧ (0 ≤ y ∧ y ≤ 13 ∨ 46 ≤ y ∧ y ≤ 49)) ∨ (x = 199 ∧ 126 ≤ y ∧ y < 368) ∨ x = 218) → B' x y = B x y) ∧ (A' 2 1 = 0 ∧ B' 197 2 = 0 ∧ A' 51 0 = B' 197 10) ∧ (((1 ≤ A' 46 5 ∧ B' 199 126 = 1) ∧ (0 ≤ A' 46 4 ∧ A' 46 4 ≤ 40) ∧ ∃ n, n ≤ 80 ∧ gR (A' 47) (A' 48) (A' 49) (B' 199) n 0 (A' 46 4) (B' 199 127)) ∨ ((∀ x y, 46 ≤ x → x ≤ 49 → A' x y = A x y) ∧ ∀ y, B' 199 y = B 199 y)) := fun A3 B3 hf h1 h2 h3 h4 h5 => by
    have fl := hf
    unfold flR at fl
    have e11 := fl.2.2.2.1
    refine ⟨zup (zup A3 2 1 0) 51 0 (A3 2 10), B3, -1 - B3 197 11, ?_, hB0.trans h2, fun x y h => ?_, fun x y h => h4 x y (by omega) (by omega), ⟨?_, h5, ?_⟩, Or.inr ⟨fun x y g1 g2 => ?_, fun y => h4 _ _ (by omega) (by omega)⟩⟩
    · simp (disch := first | assumption | exact zrm0 | exact zrm1 _ | exact zrm2 _ _ | exact zrm3 _ _ _ | exact zrm4 _ _ _ _ | omega) only [m41, ↓k_dp, ↓k_dn, k_dp, k_dn, k_dT, k_dF, k_ip, k_in, if_true, if_false, ne_eq, not_true_eq_false, not_false_eq_true, Int.reduceAdd, zup_a, zup_e, zup_j, z32_id, k_al0, k_gR, k_v2r, k_is1, k_ic, k_pI, k_gI, k_il1, k_ifne, k_isub, k_ri, k_v2, zb0_some, zb1_some, e41_0, e41_1, e41_4, e41_5, e41_8, e41_11, e41_12, e41_13, e41_16, e41_17, e41_20, e41_21, e41_24, e41_25, e41_28, e41_31, e41_34, e41_35, e41_38, e41_39, e41_40, e41_43, e41_46, e41_47, e41_48, e41_49, e41_52, e41_53, e41_56, e41_59, e41_62, e41_63, e41_66, e41_69, h1, e11]
    · rw [zup_f (by omega), zup_f (by omega), h3 x y (by omega) (by omega) (by omega)]
    · rw [zup_f (by omega), zup_e (by omega)]
    · rw [zup_e (by omega)]; exact fl.1
    · rw [zup_f (by omega), zup_f (by omega), h3 x y (by omega) (by omega) (by omega)]
  rcases b5 with ⟨rfl, c1, s', o', n, ⟨c2, c3, c4, c5⟩, ⟨c6, c7, c8, c9, c10⟩, c11, ⟨c12, c13⟩, c14⟩ | ⟨rfl, c1⟩
  · have en := c1.2.en
    by_cases cE : A2 2 5 = 0 ∧ A2 2 1 ≤ A2 2 2
    · have k0 := en.2 cE
      have hcs : zEm true d 139 [(27, 2, 0)] A2 = some ((0, 1, 0), A2) := by
        obtain ⟨d', rfl⟩ : ∃ d', d = d' + 1 := ⟨d - 1, by omega⟩
        obtain ⟨cE1, cE2⟩ := cE
        simp (disch := first | assumption | exact zrm0 | exact zrm1 _ | exact zrm2 _ _ | exact zrm3 _ _ _ | exact zrm4 _ _ _ _ | omega) only [m139, ↓k_dp, ↓k_dn, k_dp, k_dn, k_dT, k_dF, k_ip, k_in, if_true, if_false, ne_eq, not_true_eq_false, not_false_eq_true, Int.reduceAdd, zup_a, zup_e, zup_j, z32_id, k_al0, k_gI, k_ifne, k_icgt, k_ic, k_rz, k_v2r, zb0_some, zb1_some, e139_0, e139_1, e139_4, e139_7, e139_8, e139_11, e139_12, e139_15, e139_18, e139_19, e139_20, e139_21, e139_22, e139_25]
      have hRS : zEm true (d + 1) 91 [(24, 1, 0), (28, 30, 0)] A = some ((0, 1, 0), A2) := by
        simp (disch := first | assumption | exact zrm0 | exact zrm1 _ | exact zrm2 _ _ | exact zrm3 _ _ _ | exact zrm4 _ _ _ _ | omega) only [m91, ↓k_dp, ↓k_dn, k_dp, k_dn, k_dT, k_dF, k_ip, k_in, if_true, if_false, ne_eq, not_true_eq_false, not_false_eq_true, Int.reduceAdd, zup_a, zup_e, zup_j, z32_id, k_al0, k_gR, k_v1, k_ic, k_v2, k_al1, k_v3r, k_ifeq, k_v1r, k_goto, k_rz, zb0_some, zb1_some, e91_0, e91_1, e91_4, e91_7, e91_8, e91_11, e91_14, e91_17, e91_18, e91_19, e91_20, e91_23, e91_26, e91_27, e91_30, e91_33, e91_36, e91_37, e91_40, e91_41, hcl, a1, b1, hcs]
      obtain ⟨N, hN⟩ : ∃ N, N = zup (zup A2 2 1 0) 51 0 (A2 2 10) := ⟨_, rfl⟩
      have fN : ∀ x y, ¬ (x = 2 ∧ y = 1) → ¬ (x = 51 ∧ y = 0) → N x y = A2 x y := fun x y z1 z2 => by rw [hN, zup_f z2, zup_f z1]
      have hcp := s_copyN d 46 0 20 0 N (by omega)
      obtain ⟨v1, v2, v3, v4, v5⟩ := cpN_n (M := N) (a := 46) (b := 20) (by omega) (by omega)
      obtain ⟨P, hP2⟩ : ∃ P, P = zup (zup B2 199 126 1) 199 127 (s' - 1) := ⟨_, rfl⟩
      have fP : ∀ x y, ¬ (x = 199 ∧ (y = 126 ∨ y = 127)) → P x y = B2 x y := fun x y z => by rw [hP2, zup_f (by omega), zup_f (by omega)]
      have hcn := r_copyNode e y0 P
      have p47 : P 197 47 = o' := by rw [fP _ _ (by omega)]; exact c9
      rw [p47] at hcn
      have o46 : cpN N 46 20 46 5 = o' := by rw [v2, fN _ _ (by omega) (by omega)]; exact c7
      have s46 : cpN N 46 20 46 4 = s' := by rw [v1, fN _ _ (by omega) (by omega)]; exact c6
      have q126 : zcpy P 218 0 199 128 240 199 126 = 1 := by rw [zcpy_z (by omega), hP2, zup_f (by omega), zup_e (by omega)]
      have q127 : zcpy P 218 0 199 128 240 199 127 = s' - 1 := by rw [zcpy_z (by omega), hP2, zup_e (by omega)]
      refine ⟨cpN N 46 20, zcpy P 218 0 199 128 240, o', ?_, ?_, fun x y h => ?_, fun x y h => ?_, ⟨?_, ?_, ?_⟩, Or.inl ⟨⟨by omega, q126⟩, by omega, n, by omega, ?_⟩⟩
      · rw [hN] at hcp o46 ⊢
        simp (disch := first | assumption | exact zrm0 | exact zrm1 _ | exact zrm2 _ _ | exact zrm3 _ _ _ | exact zrm4 _ _ _ _ | omega) only [m41, ↓k_dp, ↓k_dn, k_dp, k_dn, k_dT, k_dF, k_ip, k_in, if_true, if_false, ne_eq, not_true_eq_false, not_false_eq_true, Int.reduceAdd, zup_a, zup_e, zup_j, z32_id, k_al0, k_gR, k_v2r, k_is1, k_ic, k_pI, k_gI, k_il1, k_ifne, k_isub, k_ri, k_v2, zb0_some, zb1_some, e41_0, e41_1, e41_4, e41_5, e41_8, e41_11, e41_12, e41_13, e41_16, e41_17, e41_20, e41_21, e41_24, e41_25, e41_28, e41_31, e41_34, e41_35, e41_38, e41_39, e41_40, e41_43, e41_46, e41_47, e41_48, e41_49, e41_52, e41_53, e41_56, e41_59, e41_62, e41_63, e41_66, e41_69, hRS, hcp, o46]
      · rw [hB0, ← hcn, hP2]
        simp (disch := first | assumption | exact zrm0 | exact zrm1 _ | exact zrm2 _ _ | exact zrm3 _ _ _ | exact zrm4 _ _ _ _ | omega) only [m294, ↓k_dp, ↓k_dn, k_dp, k_dn, k_dT, k_dF, k_ip, k_in, if_true, if_false, ne_eq, not_true_eq_false, not_false_eq_true, Int.reduceAdd, zup_a, zup_e, zup_j, z32_id, k_al0, k_ic, k_v2, k_pI, k_v1r, k_ifne, k_gI, k_isub, k_ri, k_ifeq, k_v2r, k_pop, k_gR, k_ist, k_is1, k_il1, k_icge, k_iadd, k_ild, k_ildS, k_ildW, k_inc1, k_goto, zb0_some, zb1_some, e294_0, e294_1, e294_4, e294_7, e294_8, e294_9, e294_12, e294_13, e294_14, e294_17, e294_18, e294_19, e294_22, e294_23, e294_26, e294_29, e294_30, e294_31, e294_34, e294_35, e294_36, e294_37, e294_40, e294_43, e294_44, e294_45, e294_48, e294_49, e294_50, e294_51, e294_54, e294_55, e294_56, e294_57, e294_60, e294_62, e294_63, e294_64, e294_65, e294_68, e294_70, e294_71, e294_74, e294_75, e294_76, e294_78, e294_81, e294_84, e294_85, e294_88, e294_91, e294_92, e294_93, e294_94, e294_97, e294_98, e294_99, e294_100, e294_103, e294_106, e294_107, e294_110, b2, k0, c11]
      · have c50 : cpN N 46 20 x y = N x y := by
          by_cases c : x = 50
          · unfold cpN
            rw [zup_a (by omega), zup_a (by omega), zcpy_o (by omega), zcpy_o (by omega), zcpy_o (by omega)]
          · exact cpN_o (by omega)
        rw [c50, fN x y (by omega) (by omega), fA2 x y (by omega) (by omega) (by omega)]
      · rw [zcpy_z (by omega), fP x y (by omega), fB2 x y (by omega) (by omega)]
      · rw [cpN_o (by omega), hN, zup_f (by omega), zup_e (by omega)]
      · rw [zcpy_z (by omega), fP _ _ (by omega)]; exact w2
      · rw [cpN_o (by omega), hN, zup_e (by omega), zcpy_z (by omega), fP _ _ (by omega), c1.1.f0, c1.1.g0]
      · rw [s46, q127]
        have hg := tR_gR (R2 := zcpy P 218 0 199 128 240 199) (fun y y0 y1 => by
          rw [zcpy_i (by omega) (by omega) (by omega), fP _ _ (by omega)]
          congr 1
          omega) n 0 s' c13
        exact gR_eq (fun j j0 j1 => (v3 j j0 j1).trans (fN _ _ (by omega) (by omega))) (fun j j0 j1 => (v4 j j0 j1).trans (fN _ _ (by omega) (by omega))) (fun j j0 j1 => (v5 j j0 j1).trans (fN _ _ (by omega) (by omega))) (fun _ _ _ => rfl) n 0 s' _ hg
    · have k0 : B2 197 7 ≠ 0 := fun z => cE (en.1 z)
      obtain ⟨Af, Bf, f1, f2, f3, f4, f5⟩ := p_fail c1 (k := 1) (by omega) (by omega) (fun _ => rfl)
      have f2' := f2 e y0 0 (by omega)
      have hcs : zEm true d 139 [(27, 2, 0)] A2 = some ((0, 0, 0), Af) := by
        obtain ⟨d', rfl⟩ : ∃ d', d = d' + 1 := ⟨d - 1, by omega⟩
        have f1' := f1 d' 0 0 (by omega)
        by_cases c5 : A2 2 5 = 0
        · have c6 : ¬ A2 2 1 ≤ A2 2 2 := fun z => cE ⟨c5, z⟩
          simp (disch := first | assumption | exact zrm0 | exact zrm1 _ | exact zrm2 _ _ | exact zrm3 _ _ _ | exact zrm4 _ _ _ _ | omega) only [m139, ↓k_dp, ↓k_dn, k_dp, k_dn, k_dT, k_dF, k_ip, k_in, if_true, if_false, ne_eq, not_true_eq_false, not_false_eq_true, Int.reduceAdd, zup_a, zup_e, zup_j, z32_id, k_al0, k_gI, k_ifne, k_icgt, k_ic, k_rz, k_v2r, zb0_some, zb1_some, e139_0, e139_1, e139_4, e139_7, e139_8, e139_11, e139_12, e139_15, e139_18, e139_19, e139_20, e139_21, e139_22, e139_25, f1']
        · simp (disch := first | assumption | exact zrm0 | exact zrm1 _ | exact zrm2 _ _ | exact zrm3 _ _ _ | exact zrm4 _ _ _ _ | omega) only [m139, ↓k_dp, ↓k_dn, k_dp, k_dn, k_dT, k_dF, k_ip, k_in, if_true, if_false, ne_eq, not_true_eq_false, not_false_eq_true, Int.reduceAdd, zup_a, zup_e, zup_j, z32_id, k_al0, k_gI, k_ifne, k_icgt, k_ic, k_rz, k_v2r, zb0_some, zb1_some, e139_0, e139_1, e139_4, e139_7, e139_8, e139_11, e139_12, e139_15, e139_18, e139_19, e139_20, e139_21, e139_22, e139_25, f1']
      have fl := f5
      unfold flR at fl
      refine fault Af Bf f5 ?_ ?_ (fun x y z1 z2 z3 => by rw [f3 x y (by omega)]; exact fA2 x y z1 z2 z3) (fun x y z1 z2 => by rw [f4 x y (by omega)]; exact fB2 x y z1 z2) (by rw [f4 _ _ (by omega)]; exact w2)
      · simp (disch := first | assumption | exact zrm0 | exact zrm1 _ | exact zrm2 _ _ | exact zrm3 _ _ _ | exact zrm4 _ _ _ _ | omega) only [m91, ↓k_dp, ↓k_dn, k_dp, k_dn, k_dT, k_dF, k_ip, k_in, if_true, if_false, ne_eq, not_true_eq_false, not_false_eq_true, Int.reduceAdd, zup_a, zup_e, zup_j, z32_id, k_al0, k_gR, k_v1, k_ic, k_v2, k_al1, k_v3r, k_ifeq, k_v1r, k_goto, k_rz, zb0_some, zb1_some, e91_0, e91_1, e91_4, e91_7, e91_8, e91_11, e91_14, e91_17, e91_18, e91_19, e91_20, e91_23, e91_26, e91_27, e91_30, e91_33, e91_36, e91_37, e91_40, e91_41, hcl, a1, b1, hcs]
      · simp (disch := first | assumption | exact zrm0 | exact zrm1 _ | exact zrm2 _ _ | exact zrm3 _ _ _ | exact zrm4 _ _ _ _ | omega) only [m294, ↓k_dp, ↓k_dn, k_dp, k_dn, k_dT, k_dF, k_ip, k_in, if_true, if_false, ne_eq, not_true_eq_false, not_false_eq_true, Int.reduceAdd, zup_a, zup_e, zup_j, z32_id, k_al0, k_ic, k_v2, k_pI, k_v1r, k_ifne, k_gI, k_isub, k_ri, k_ifeq, k_v2r, k_pop, k_gR, k_ist, k_is1, k_il1, k_icge, k_iadd, k_ild, k_ildS, k_ildW, k_inc1, k_goto, zb0_some, zb1_some, e294_0, e294_1, e294_4, e294_7, e294_8, e294_9, e294_12, e294_13, e294_14, e294_17, e294_18, e294_19, e294_22, e294_23, e294_26, e294_29, e294_30, e294_31, e294_34, e294_35, e294_36, e294_37, e294_40, e294_43, e294_44, e294_45, e294_48, e294_49, e294_50, e294_51, e294_54, e294_55, e294_56, e294_57, e294_60, e294_62, e294_63, e294_64, e294_65, e294_68, e294_70, e294_71, e294_74, e294_75, e294_76, e294_78, e294_81, e294_84, e294_85, e294_88, e294_91, e294_92, e294_93, e294_94, e294_97, e294_98, e294_99, e294_100, e294_103, e294_106, e294_107, e294_110, b2, f2']
  · have fl := c1
    unfold flR at fl
    refine fault A2 B2 c1 ?_ ?_ fA2 fB2 w2
    · simp (disch := first | assumption | exact zrm0 | exact zrm1 _ | exact zrm2 _ _ | exact zrm3 _ _ _ | exact zrm4 _ _ _ _ | omega) only [m91, ↓k_dp, ↓k_dn, k_dp, k_dn, k_dT, k_dF, k_ip, k_in, if_true, if_false, ne_eq, not_true_eq_false, not_false_eq_true, Int.reduceAdd, zup_a, zup_e, zup_j, z32_id, k_al0, k_gR, k_v1, k_ic, k_v2, k_al1, k_v3r, k_ifeq, k_v1r, k_goto, k_rz, zb0_some, zb1_some, e91_0, e91_1, e91_4, e91_7, e91_8, e91_11, e91_14, e91_17, e91_18, e91_19, e91_20, e91_23, e91_26, e91_27, e91_30, e91_33, e91_36, e91_37, e91_40, e91_41, hcl, a1, b1]
    · simp (disch := first | assumption | exact zrm0 | exact zrm1 _ | exact zrm2 _ _ | exact zrm3 _ _ _ | exact zrm4 _ _ _ _ | omega) only [m294, ↓k_dp, ↓k_dn, k_dp, k_dn, k_dT, k_dF, k_ip, k_in, if_true, if_false, ne_eq, not_true_eq_false, not_false_eq_true, Int.reduceAdd, zup_a, zup_e, zup_j, z32_id, k_al0, k_ic, k_v2, k_pI, k_v1r, k_ifne, k_gI, k_isub, k_ri, k_ifeq, k_v2r, k_pop, k_gR, k_ist, k_is1, k_il1, k_icge, k_iadd, k_ild, k_ildS, k_ildW, k_inc1, k_goto, zb0_some, zb1_some, e294_0, e294_1, e294_4, e294_7, e294_8, e294_9, e294_12, e294_13, e294_14, e294_17, e294_18, e294_19, e294_22, e294_23, e294_26, e294_29, e294_30, e294_31, e294_34, e294_35, e294_36, e294_37, e294_40, e294_43, e294_44, e294_45, e294_48, e294_49, e294_50, e294_51, e294_54, e294_55, e294_56, e294_57, e294_60, e294_62, e294_63, e294_64, e294_65, e294_68, e294_70, e294_71, e294_74, e294_75, e294_76, e294_78, e294_81, e294_84, e294_85, e294_88, e294_91, e294_92, e294_93, e294_94, e294_97, e294_98, e294_99, e294_100, e294_103, e294_106, e294_107, e294_110, b2]
def zPairZ (M : zM) (cc : zO) (rc : zM → zO) : Prop := ∃ v M1 M2, cc = some ((0, v, 0), M1) ∧ rc M1 = some ((0, v, 0), M2) ∧ relA M2 ∧ relG M2 ∧ relH M2 ∧ ∀ x y, ¬ zFZ x y → M2 x y = M x y
theorem nmB_M {M N : zM} (hC : relC M) (hD : relD M) (h : ∀ x y, x = 199 ∧ y ≤ 2 ∨ x = 204 → N x y = M x y) : nmB M N := by
  obtain ⟨⟨g6, g6'⟩, ⟨g1, g2⟩, ⟨g3, g4⟩, -⟩ := okG_M hC.2
  obtain ⟨n0, n1, n2, n3, n4, n5⟩ := relC_n hC
  have r4 : N 204 = M 204 := funext fun y => h _ _ (Or.inr rfl)
  unfold nmB
  rw [h 199 0 (by omega), h 199 1 (by omega), h 199 2 (by omega), r4]
  refine ⟨⟨n0.symm, g6, g6'⟩, ⟨n1.symm, g1, g2⟩, ⟨n2.symm, g3, g4⟩, fun k k0 k1 => ?_, hD.2.1, hD.2.2⟩
  rw [Int.zero_add]
  exact hD.1 k k0 k1
theorem pair_sentence (d : Nat) (x0 z0 : Int) (M : zM) (hA : relA M) (hC : relC M) (hD : relD M) (hG : relG M) (hH : relH M) : zPairZ M (zEm true (d + 46) 41 [(29, 0, x0)] M) (fun M1 => zEm true (d + 46) 294 [(30, 197, z0)] M1) := by
  have hA0 : relTT M M := hA
  obtain ⟨A, B0, r, a1, -, a2, -⟩ := l_sentence hA0 (nmB_M hC hD (fun _ _ _ => rfl)) (d + 44) (d + 45) (by omega) (by omega) x0 z0
  have hA1 : relTT M A := by
    refine ⟨hA.1, ?_, fun i i0 i1 => ?_⟩
    · rw [a2 _ _ (by omega)]; exact hA.2.1
    · rw [a2 _ _ (by omega)]; exact hA.2.2 i i0 i1
  obtain ⟨A', B, r', b1, b2, b3, b4, ⟨b5, b6, b7⟩, b8⟩ := l_sentence hA1 (nmB_M hC hD (fun x y z => a2 x y (by omega))) (d + 44) (d + 45) (by omega) (by omega) x0 z0
  have e := a1.symm.trans b1
  injection e with e
  injection e with e1 e2
  injection e1 with _ e1
  injection e1 with e1 _
  subst e1
  subst e2
  refine ⟨r, A, B, a1, b2, ⟨?_, ?_, fun i i0 i1 => ?_⟩, ?_, relH_fr hH (fun x y h => ?_) ?_, fun x y h => ?_⟩
  · rw [b4 2 1 (by omega), b5]; omega
  · rw [b4 2 1 (by omega), b5, b6]
  · rw [b4 198 i (by omega), b4 3 i (by omega), a2 198 i (by omega), a2 3 i (by omega)]
    exact hA.2.2 i i0 i1
  · have r46 : ∀ x, 46 ≤ x → x ≤ 49 → B x = A x := fun x h1 h2 => funext fun y => b4 _ _ (by omega)
    rcases b8 with ⟨⟨c1, c2⟩, c3, n, c4, c5⟩ | ⟨c1, c2⟩
    · right
      rw [r46 46 (by omega) (by omega), r46 (46 + 1) (by omega) (by omega), r46 (46 + 2) (by omega) (by omega), r46 (46 + 3) (by omega) (by omega)]
      exact ⟨⟨c1, c2⟩, c3, n, c4, c5⟩
    · have k : ∀ x y, 46 ≤ x → x ≤ 49 → B x y = M x y := fun x y h1 h2 => by rw [r46 x h1 h2]; exact c1 x y h1 h2
      exact relN_eq hG (k _ _ (by omega) (by omega)) (k _ _ (by omega) (by omega)) (fun j _ _ => k _ _ (by omega) (by omega)) (fun j _ _ => k _ _ (by omega) (by omega)) (fun j _ _ => k _ _ (by omega) (by omega)) (fun j _ _ => by rw [c2 j]; exact a2 _ _ (by omega))
  · rw [b4 x y (by omega)]
    exact a2 x y (by omega)
  · rw [b4 51 0 (by omega)]; exact b7.symm
  · unfold zFZ at h
    rw [b4 x y (by omega)]
    exact a2 x y (by omega)
