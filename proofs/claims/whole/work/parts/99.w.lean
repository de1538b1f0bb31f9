/-! a number put behind, in the class -/
def dLen (n : Int) : Int := if n < 10 then 1 else if n < 100 then 2 else if n < 1000 then 3 else 4
def dDig (n i : Int) : Int := if n < 10 then 48 + n else if n < 100 then (if i = 0 then 48 + n / 10 else 48 + n % 10) else if n < 1000 then (if i = 0 then 48 + n / 100 else if i = 1 then 48 + n / 10 % 10 else 48 + n % 10) else (if i = 0 then 49 else 48)
theorem m319 (ph : Bool) (d : Nat) (p0 y0 : Int) (M : zM) : zEm ph (d + 1) 319 [(0, p0, y0)] M = zEv ph d 319 0 [(0, p0, y0), (3, 0, 0), (3, 0, 0), (3, 0, 0)] [] M := rfl
theorem e319_0 (ph : Bool) (d : Nat) (L st : List zV) (M : zM) : zEv ph d 319 0 L st M = zcont ph d 319 (zstep ph (zEm ph d) 0 1 0 [1] L st M) := zEv_step rfl
theorem e319_1 (ph : Bool) (d : Nat) (L st : List zV) (M : zM) : zEv ph d 319 1 L st M = zcont ph d 319 (zstep ph (zEm ph d) 5 2 0 [1] L st M) := zEv_step rfl
theorem e319_2 (ph : Bool) (d : Nat) (L st : List zV) (M : zM) : zEv ph d 319 2 L st M = zcont ph d 319 (zstep ph (zEm ph d) 2 3 0 [0] L st M) := zEv_step rfl
theorem e319_3 (ph : Bool) (d : Nat) (L st : List zV) (M : zM) : zEv ph d 319 3 L st M = zcont ph d 319 (zstep ph (zEm ph d) 42 6 11 [] L st M) := zEv_step rfl
theorem e319_6 (ph : Bool) (d : Nat) (L st : List zV) (M : zM) : zEv ph d 319 6 L st M = zcont ph d 319 (zstep ph (zEm ph d) 0 7 0 [0] L st M) := zEv_step rfl
theorem e319_7 (ph : Bool) (d : Nat) (L st : List zV) (M : zM) : zEv ph d 319 7 L st M = zcont ph d 319 (zstep ph (zEm ph d) 5 8 0 [1] L st M) := zEv_step rfl
theorem e319_8 (ph : Bool) (d : Nat) (L st : List zV) (M : zM) : zEv ph d 319 8 L st M = zcont ph d 319 (zstep ph (zEm ph d) 2 9 0 [0] L st M) := zEv_step rfl
theorem e319_9 (ph : Bool) (d : Nat) (L st : List zV) (M : zM) : zEv ph d 319 9 L st M = zcont ph d 319 (zstep ph (zEm ph d) 15 10 0 [] L st M) := zEv_step rfl
theorem e319_10 (ph : Bool) (d : Nat) (L st : List zV) (M : zM) : zEv ph d 319 10 L st M = zcont ph d 319 (zstep ph (zEm ph d) 5 11 0 [0] L st M) := zEv_step rfl
theorem e319_11 (ph : Bool) (d : Nat) (L st : List zV) (M : zM) : zEv ph d 319 11 L st M = zcont ph d 319 (zstep ph (zEm ph d) 0 13 0 [-10] L st M) := zEv_step rfl
theorem e319_13 (ph : Bool) (d : Nat) (L st : List zV) (M : zM) : zEv ph d 319 13 L st M = zcont ph d 319 (zstep ph (zEm ph d) 5 14 0 [2] L st M) := zEv_step rfl
theorem e319_14 (ph : Bool) (d : Nat) (L st : List zV) (M : zM) : zEv ph d 319 14 L st M = zcont ph d 319 (zstep ph (zEm ph d) 0 15 0 [1] L st M) := zEv_step rfl
theorem e319_15 (ph : Bool) (d : Nat) (L st : List zV) (M : zM) : zEv ph d 319 15 L st M = zcont ph d 319 (zstep ph (zEm ph d) 5 16 0 [3] L st M) := zEv_step rfl
theorem e319_16 (ph : Bool) (d : Nat) (L st : List zV) (M : zM) : zEv ph d 319 16 L st M = zcont ph d 319 (zstep ph (zEm ph d) 2 17 0 [3] L st M) := zEv_step rfl
theorem e319_17 (ph : Bool) (d : Nat) (L st : List zV) (M : zM) : zEv ph d 319 17 L st M = zcont ph d 319 (zstep ph (zEm ph d) 0 19 0 [10] L st M) := zEv_step rfl
theorem e319_19 (ph : Bool) (d : Nat) (L st : List zV) (M : zM) : zEv ph d 319 19 L st M = zcont ph d 319 (zstep ph (zEm ph d) 49 22 42 [] L st M) := zEv_step rfl
theorem e319_22 (ph : Bool) (d : Nat) (L st : List zV) (M : zM) : zEv ph d 319 22 L st M = zcont ph d 319 (zstep ph (zEm ph d) 2 23 0 [0] L st M) := zEv_step rfl
theorem e319_23 (ph : Bool) (d : Nat) (L st : List zV) (M : zM) : zEv ph d 319 23 L st M = zcont ph d 319 (zstep ph (zEm ph d) 2 24 0 [2] L st M) := zEv_step rfl
theorem e319_24 (ph : Bool) (d : Nat) (L st : List zV) (M : zM) : zEv ph d 319 24 L st M = zcont ph d 319 (zstep ph (zEm ph d) 51 27 31 [] L st M) := zEv_step rfl
theorem e319_27 (ph : Bool) (d : Nat) (L st : List zV) (M : zM) : zEv ph d 319 27 L st M = zcont ph d 319 (zstep ph (zEm ph d) 2 28 0 [3] L st M) := zEv_step rfl
theorem e319_28 (ph : Bool) (d : Nat) (L st : List zV) (M : zM) : zEv ph d 319 28 L st M = zcont ph d 319 (zstep ph (zEm ph d) 2 29 0 [1] L st M) := zEv_step rfl
theorem e319_29 (ph : Bool) (d : Nat) (L st : List zV) (M : zM) : zEv ph d 319 29 L st M = zcont ph d 319 (zstep ph (zEm ph d) 10 30 0 [] L st M) := zEv_step rfl
theorem e319_30 (ph : Bool) (d : Nat) (L st : List zV) (M : zM) : zEv ph d 319 30 L st M = zcont ph d 319 (zstep ph (zEm ph d) 80 31 0 [] L st M) := zEv_step rfl
theorem e319_31 (ph : Bool) (d : Nat) (L st : List zV) (M : zM) : zEv ph d 319 31 L st M = zcont ph d 319 (zstep ph (zEm ph d) 0 33 0 [10] L st M) := zEv_step rfl
theorem e319_33 (ph : Bool) (d : Nat) (L st : List zV) (M : zM) : zEv ph d 319 33 L st M = zcont ph d 319 (zstep ph (zEm ph d) 2 34 0 [2] L st M) := zEv_step rfl
theorem e319_34 (ph : Bool) (d : Nat) (L st : List zV) (M : zM) : zEv ph d 319 34 L st M = zcont ph d 319 (zstep ph (zEm ph d) 12 35 0 [] L st M) := zEv_step rfl
theorem e319_35 (ph : Bool) (d : Nat) (L st : List zV) (M : zM) : zEv ph d 319 35 L st M = zcont ph d 319 (zstep ph (zEm ph d) 5 36 0 [2] L st M) := zEv_step rfl
theorem e319_36 (ph : Bool) (d : Nat) (L st : List zV) (M : zM) : zEv ph d 319 36 L st M = zcont ph d 319 (zstep ph (zEm ph d) 8 39 0 [3, 1] L st M) := zEv_step rfl
theorem e319_39 (ph : Bool) (d : Nat) (L st : List zV) (M : zM) : zEv ph d 319 39 L st M = zcont ph d 319 (zstep ph (zEm ph d) 52 42 16 [] L st M) := zEv_step rfl
theorem e319_42 (ph : Bool) (d : Nat) (L st : List zV) (M : zM) : zEv ph d 319 42 L st M = zcont ph d 319 (zstep ph (zEm ph d) 0 44 0 [10] L st M) := zEv_step rfl
theorem e319_44 (ph : Bool) (d : Nat) (L st : List zV) (M : zM) : zEv ph d 319 44 L st M = zcont ph d 319 (zstep ph (zEm ph d) 2 45 0 [1] L st M) := zEv_step rfl
theorem e319_45 (ph : Bool) (d : Nat) (L st : List zV) (M : zM) : zEv ph d 319 45 L st M = zcont ph d 319 (zstep ph (zEm ph d) 10 46 0 [] L st M) := zEv_step rfl
theorem e319_46 (ph : Bool) (d : Nat) (L st : List zV) (M : zM) : zEv ph d 319 46 L st M = zcont ph d 319 (zstep ph (zEm ph d) 80 47 0 [] L st M) := zEv_step rfl
theorem m318 (ph : Bool) (d : Nat) (p0 y0 p1 y1 p2 y2 : Int) (M : zM) : zEm ph (d + 1) 318 [(0, p0, y0), (0, p1, y1), (13, p2, y2)] M = zEv ph d 318 0 [(0, p0, y0), (0, p1, y1), (13, p2, y2), (3, 0, 0), (3, 0, 0), (3, 0, 0), (3, 0, 0)] [] M := rfl
theorem e318_0 (ph : Bool) (d : Nat) (L st : List zV) (M : zM) : zEv ph d 318 0 L st M = zcont ph d 318 (zstep ph (zEm ph d) 2 1 0 [1] L st M) := zEv_step rfl
theorem e318_1 (ph : Bool) (d : Nat) (L st : List zV) (M : zM) : zEv ph d 318 1 L st M = zcont ph d 318 (zstep ph (zEm ph d) 5 3 0 [5] L st M) := zEv_step rfl
theorem e318_3 (ph : Bool) (d : Nat) (L st : List zV) (M : zM) : zEv ph d 318 3 L st M = zcont ph d 318 (zstep ph (zEm ph d) 2 4 0 [0] L st M) := zEv_step rfl
theorem e318_4 (ph : Bool) (d : Nat) (L st : List zV) (M : zM) : zEv ph d 318 4 L st M = zcont ph d 318 (zstep ph (zEm ph d) 43 7 11 [] L st M) := zEv_step rfl
theorem e318_7 (ph : Bool) (d : Nat) (L st : List zV) (M : zM) : zEv ph d 318 7 L st M = zcont ph d 318 (zstep ph (zEm ph d) 0 8 0 [1] L st M) := zEv_step rfl
theorem e318_8 (ph : Bool) (d : Nat) (L st : List zV) (M : zM) : zEv ph d 318 8 L st M = zcont ph d 318 (zstep ph (zEm ph d) 52 11 12 [] L st M) := zEv_step rfl
theorem e318_11 (ph : Bool) (d : Nat) (L st : List zV) (M : zM) : zEv ph d 318 11 L st M = zcont ph d 318 (zstep ph (zEm ph d) 0 12 0 [0] L st M) := zEv_step rfl
theorem e318_12 (ph : Bool) (d : Nat) (L st : List zV) (M : zM) : zEv ph d 318 12 L st M = zcont ph d 318 (zstep ph (zEm ph d) 5 14 0 [6] L st M) := zEv_step rfl
theorem e318_14 (ph : Bool) (d : Nat) (L st : List zV) (M : zM) : zEv ph d 318 14 L st M = zcont ph d 318 (zstep ph (zEm ph d) 2 16 0 [6] L st M) := zEv_step rfl
theorem e318_16 (ph : Bool) (d : Nat) (L st : List zV) (M : zM) : zEv ph d 318 16 L st M = zcont ph d 318 (zstep ph (zEm ph d) 41 19 22 [] L st M) := zEv_step rfl
theorem e318_19 (ph : Bool) (d : Nat) (L st : List zV) (M : zM) : zEv ph d 318 19 L st M = zcont ph d 318 (zstep ph (zEm ph d) 2 20 0 [0] L st M) := zEv_step rfl
theorem e318_20 (ph : Bool) (d : Nat) (L st : List zV) (M : zM) : zEv ph d 318 20 L st M = zcont ph d 318 (zstep ph (zEm ph d) 15 21 0 [] L st M) := zEv_step rfl
theorem e318_21 (ph : Bool) (d : Nat) (L st : List zV) (M : zM) : zEv ph d 318 21 L st M = zcont ph d 318 (zstep ph (zEm ph d) 5 22 0 [0] L st M) := zEv_step rfl
theorem e318_22 (ph : Bool) (d : Nat) (L st : List zV) (M : zM) : zEv ph d 318 22 L st M = zcont ph d 318 (zstep ph (zEm ph d) 2 23 0 [0] L st M) := zEv_step rfl
theorem e318_23 (ph : Bool) (d : Nat) (L st : List zV) (M : zM) : zEv ph d 318 23 L st M = zcont ph d 318 (zstep ph (zEm ph d) 0 25 0 [-100] L st M) := zEv_step rfl
theorem e318_25 (ph : Bool) (d : Nat) (L st : List zV) (M : zM) : zEv ph d 318 25 L st M = zcont ph d 318 (zstep ph (zEm ph d) 50 28 72 [] L st M) := zEv_step rfl
theorem e318_28 (ph : Bool) (d : Nat) (L st : List zV) (M : zM) : zEv ph d 318 28 L st M = zcont ph d 318 (zstep ph (zEm ph d) 2 29 0 [0] L st M) := zEv_step rfl
theorem e318_29 (ph : Bool) (d : Nat) (L st : List zV) (M : zM) : zEv ph d 318 29 L st M = zcont ph d 318 (zstep ph (zEm ph d) 0 31 0 [100] L st M) := zEv_step rfl
theorem e318_31 (ph : Bool) (d : Nat) (L st : List zV) (M : zM) : zEv ph d 318 31 L st M = zcont ph d 318 (zstep ph (zEm ph d) 13 32 0 [] L st M) := zEv_step rfl
theorem e318_32 (ph : Bool) (d : Nat) (L st : List zV) (M : zM) : zEv ph d 318 32 L st M = zcont ph d 318 (zstep ph (zEm ph d) 5 33 0 [3] L st M) := zEv_step rfl
theorem e318_33 (ph : Bool) (d : Nat) (L st : List zV) (M : zM) : zEv ph d 318 33 L st M = zcont ph d 318 (zstep ph (zEm ph d) 2 34 0 [3] L st M) := zEv_step rfl
theorem e318_34 (ph : Bool) (d : Nat) (L st : List zV) (M : zM) : zEv ph d 318 34 L st M = zcont ph d 318 (zstep ph (zEm ph d) 0 36 0 [100] L st M) := zEv_step rfl
theorem e318_36 (ph : Bool) (d : Nat) (L st : List zV) (M : zM) : zEv ph d 318 36 L st M = zcont ph d 318 (zstep ph (zEm ph d) 12 37 0 [] L st M) := zEv_step rfl
theorem e318_37 (ph : Bool) (d : Nat) (L st : List zV) (M : zM) : zEv ph d 318 37 L st M = zcont ph d 318 (zstep ph (zEm ph d) 2 38 0 [0] L st M) := zEv_step rfl
theorem e318_38 (ph : Bool) (d : Nat) (L st : List zV) (M : zM) : zEv ph d 318 38 L st M = zcont ph d 318 (zstep ph (zEm ph d) 11 39 0 [] L st M) := zEv_step rfl
theorem e318_39 (ph : Bool) (d : Nat) (L st : List zV) (M : zM) : zEv ph d 318 39 L st M = zcont ph d 318 (zstep ph (zEm ph d) 5 41 0 [4] L st M) := zEv_step rfl
theorem e318_41 (ph : Bool) (d : Nat) (L st : List zV) (M : zM) : zEv ph d 318 41 L st M = zcont ph d 318 (zstep ph (zEm ph d) 2 42 0 [3] L st M) := zEv_step rfl
theorem e318_42 (ph : Bool) (d : Nat) (L st : List zV) (M : zM) : zEv ph d 318 42 L st M = zcont ph d 318 (zstep ph (zEm ph d) 5 43 0 [0] L st M) := zEv_step rfl
theorem e318_43 (ph : Bool) (d : Nat) (L st : List zV) (M : zM) : zEv ph d 318 43 L st M = zcont ph d 318 (zstep ph (zEm ph d) 4 44 0 [2] L st M) := zEv_step rfl
theorem e318_44 (ph : Bool) (d : Nat) (L st : List zV) (M : zM) : zEv ph d 318 44 L st M = zcont ph d 318 (zstep ph (zEm ph d) 8 47 0 [5, -1] L st M) := zEv_step rfl
theorem e318_47 (ph : Bool) (d : Nat) (L st : List zV) (M : zM) : zEv ph d 318 47 L st M = zcont ph d 318 (zstep ph (zEm ph d) 2 49 0 [5] L st M) := zEv_step rfl
theorem e318_49 (ph : Bool) (d : Nat) (L st : List zV) (M : zM) : zEv ph d 318 49 L st M = zcont ph d 318 (zstep ph (zEm ph d) 102 52 0 [0, 100] L st M) := zEv_step rfl
theorem e318_52 (ph : Bool) (d : Nat) (L st : List zV) (M : zM) : zEv ph d 318 52 L st M = zcont ph d 318 (zstep ph (zEm ph d) 2 54 0 [4] L st M) := zEv_step rfl
theorem e318_54 (ph : Bool) (d : Nat) (L st : List zV) (M : zM) : zEv ph d 318 54 L st M = zcont ph d 318 (zstep ph (zEm ph d) 87 55 0 [] L st M) := zEv_step rfl
theorem e318_55 (ph : Bool) (d : Nat) (L st : List zV) (M : zM) : zEv ph d 318 55 L st M = zcont ph d 318 (zstep ph (zEm ph d) 91 56 0 [] L st M) := zEv_step rfl
theorem e318_56 (ph : Bool) (d : Nat) (L st : List zV) (M : zM) : zEv ph d 318 56 L st M = zcont ph d 318 (zstep ph (zEm ph d) 4 57 0 [2] L st M) := zEv_step rfl
theorem e318_57 (ph : Bool) (d : Nat) (L st : List zV) (M : zM) : zEv ph d 318 57 L st M = zcont ph d 318 (zstep ph (zEm ph d) 8 60 0 [5, -1] L st M) := zEv_step rfl
theorem e318_60 (ph : Bool) (d : Nat) (L st : List zV) (M : zM) : zEv ph d 318 60 L st M = zcont ph d 318 (zstep ph (zEm ph d) 2 62 0 [5] L st M) := zEv_step rfl
theorem e318_62 (ph : Bool) (d : Nat) (L st : List zV) (M : zM) : zEv ph d 318 62 L st M = zcont ph d 318 (zstep ph (zEm ph d) 102 65 0 [1, 100] L st M) := zEv_step rfl
theorem e318_65 (ph : Bool) (d : Nat) (L st : List zV) (M : zM) : zEv ph d 318 65 L st M = zcont ph d 318 (zstep ph (zEm ph d) 2 67 0 [4] L st M) := zEv_step rfl
theorem e318_67 (ph : Bool) (d : Nat) (L st : List zV) (M : zM) : zEv ph d 318 67 L st M = zcont ph d 318 (zstep ph (zEm ph d) 87 68 0 [] L st M) := zEv_step rfl
theorem e318_68 (ph : Bool) (d : Nat) (L st : List zV) (M : zM) : zEv ph d 318 68 L st M = zcont ph d 318 (zstep ph (zEm ph d) 91 69 0 [] L st M) := zEv_step rfl
theorem e318_69 (ph : Bool) (d : Nat) (L st : List zV) (M : zM) : zEv ph d 318 69 L st M = zcont ph d 318 (zstep ph (zEm ph d) 52 72 22 [] L st M) := zEv_step rfl
theorem e318_72 (ph : Bool) (d : Nat) (L st : List zV) (M : zM) : zEv ph d 318 72 L st M = zcont ph d 318 (zstep ph (zEm ph d) 4 73 0 [2] L st M) := zEv_step rfl
theorem e318_73 (ph : Bool) (d : Nat) (L st : List zV) (M : zM) : zEv ph d 318 73 L st M = zcont ph d 318 (zstep ph (zEm ph d) 8 76 0 [5, -1] L st M) := zEv_step rfl
theorem e318_76 (ph : Bool) (d : Nat) (L st : List zV) (M : zM) : zEv ph d 318 76 L st M = zcont ph d 318 (zstep ph (zEm ph d) 2 78 0 [5] L st M) := zEv_step rfl
theorem e318_78 (ph : Bool) (d : Nat) (L st : List zV) (M : zM) : zEv ph d 318 78 L st M = zcont ph d 318 (zstep ph (zEm ph d) 102 81 0 [0, 100] L st M) := zEv_step rfl
theorem e318_81 (ph : Bool) (d : Nat) (L st : List zV) (M : zM) : zEv ph d 318 81 L st M = zcont ph d 318 (zstep ph (zEm ph d) 2 82 0 [0] L st M) := zEv_step rfl
theorem e318_82 (ph : Bool) (d : Nat) (L st : List zV) (M : zM) : zEv ph d 318 82 L st M = zcont ph d 318 (zstep ph (zEm ph d) 15 83 0 [] L st M) := zEv_step rfl
theorem e318_83 (ph : Bool) (d : Nat) (L st : List zV) (M : zM) : zEv ph d 318 83 L st M = zcont ph d 318 (zstep ph (zEm ph d) 87 84 0 [] L st M) := zEv_step rfl
theorem e318_84 (ph : Bool) (d : Nat) (L st : List zV) (M : zM) : zEv ph d 318 84 L st M = zcont ph d 318 (zstep ph (zEm ph d) 91 85 0 [] L st M) := zEv_step rfl
theorem e318_85 (ph : Bool) (d : Nat) (L st : List zV) (M : zM) : zEv ph d 318 85 L st M = zcont ph d 318 (zstep ph (zEm ph d) 2 86 0 [0] L st M) := zEv_step rfl
theorem e318_86 (ph : Bool) (d : Nat) (L st : List zV) (M : zM) : zEv ph d 318 86 L st M = zcont ph d 318 (zstep ph (zEm ph d) 0 88 0 [-9] L st M) := zEv_step rfl
theorem e318_88 (ph : Bool) (d : Nat) (L st : List zV) (M : zM) : zEv ph d 318 88 L st M = zcont ph d 318 (zstep ph (zEm ph d) 49 91 104 [] L st M) := zEv_step rfl
theorem e318_91 (ph : Bool) (d : Nat) (L st : List zV) (M : zM) : zEv ph d 318 91 L st M = zcont ph d 318 (zstep ph (zEm ph d) 4 92 0 [2] L st M) := zEv_step rfl
theorem e318_92 (ph : Bool) (d : Nat) (L st : List zV) (M : zM) : zEv ph d 318 92 L st M = zcont ph d 318 (zstep ph (zEm ph d) 8 95 0 [5, -1] L st M) := zEv_step rfl
theorem e318_95 (ph : Bool) (d : Nat) (L st : List zV) (M : zM) : zEv ph d 318 95 L st M = zcont ph d 318 (zstep ph (zEm ph d) 2 97 0 [5] L st M) := zEv_step rfl
theorem e318_97 (ph : Bool) (d : Nat) (L st : List zV) (M : zM) : zEv ph d 318 97 L st M = zcont ph d 318 (zstep ph (zEm ph d) 102 100 0 [1, 100] L st M) := zEv_step rfl
theorem e318_100 (ph : Bool) (d : Nat) (L st : List zV) (M : zM) : zEv ph d 318 100 L st M = zcont ph d 318 (zstep ph (zEm ph d) 2 101 0 [0] L st M) := zEv_step rfl
theorem e318_101 (ph : Bool) (d : Nat) (L st : List zV) (M : zM) : zEv ph d 318 101 L st M = zcont ph d 318 (zstep ph (zEm ph d) 15 102 0 [] L st M) := zEv_step rfl
theorem e318_102 (ph : Bool) (d : Nat) (L st : List zV) (M : zM) : zEv ph d 318 102 L st M = zcont ph d 318 (zstep ph (zEm ph d) 87 103 0 [] L st M) := zEv_step rfl
theorem e318_103 (ph : Bool) (d : Nat) (L st : List zV) (M : zM) : zEv ph d 318 103 L st M = zcont ph d 318 (zstep ph (zEm ph d) 91 104 0 [] L st M) := zEv_step rfl
theorem e318_104 (ph : Bool) (d : Nat) (L st : List zV) (M : zM) : zEv ph d 318 104 L st M = zcont ph d 318 (zstep ph (zEm ph d) 2 106 0 [6] L st M) := zEv_step rfl
theorem e318_106 (ph : Bool) (d : Nat) (L st : List zV) (M : zM) : zEv ph d 318 106 L st M = zcont ph d 318 (zstep ph (zEm ph d) 40 109 118 [] L st M) := zEv_step rfl
theorem e318_109 (ph : Bool) (d : Nat) (L st : List zV) (M : zM) : zEv ph d 318 109 L st M = zcont ph d 318 (zstep ph (zEm ph d) 4 110 0 [2] L st M) := zEv_step rfl
theorem e318_110 (ph : Bool) (d : Nat) (L st : List zV) (M : zM) : zEv ph d 318 110 L st M = zcont ph d 318 (zstep ph (zEm ph d) 8 113 0 [5, -1] L st M) := zEv_step rfl
theorem e318_113 (ph : Bool) (d : Nat) (L st : List zV) (M : zM) : zEv ph d 318 113 L st M = zcont ph d 318 (zstep ph (zEm ph d) 2 115 0 [5] L st M) := zEv_step rfl
theorem e318_115 (ph : Bool) (d : Nat) (L st : List zV) (M : zM) : zEv ph d 318 115 L st M = zcont ph d 318 (zstep ph (zEm ph d) 0 117 0 [45] L st M) := zEv_step rfl
theorem e318_117 (ph : Bool) (d : Nat) (L st : List zV) (M : zM) : zEv ph d 318 117 L st M = zcont ph d 318 (zstep ph (zEm ph d) 91 118 0 [] L st M) := zEv_step rfl
theorem e318_118 (ph : Bool) (d : Nat) (L st : List zV) (M : zM) : zEv ph d 318 118 L st M = zcont ph d 318 (zstep ph (zEm ph d) 2 120 0 [5] L st M) := zEv_step rfl
theorem e318_120 (ph : Bool) (d : Nat) (L st : List zV) (M : zM) : zEv ph d 318 120 L st M = zcont ph d 318 (zstep ph (zEm ph d) 80 121 0 [] L st M) := zEv_step rfl
theorem m310 (ph : Bool) (d : Nat) (a x0 p0 y0 : Int) (M : zM) : zEm ph (d + 1) 310 [(31, a, x0), (0, p0, y0)] M = zEv ph d 310 0 [(31, a, x0), (0, p0, y0), (3, 0, 0), (3, 0, 0)] [] M := rfl
theorem e310_0 (ph : Bool) (d : Nat) (L st : List zV) (M : zM) : zEv ph d 310 0 L st M = zcont ph d 310 (zstep ph (zEm ph d) 4 1 0 [0] L st M) := zEv_step rfl
theorem e310_1 (ph : Bool) (d : Nat) (L st : List zV) (M : zM) : zEv ph d 310 1 L st M = zcont ph d 310 (zstep ph (zEm ph d) 60 4 0 [31, 3] L st M) := zEv_step rfl
theorem e310_4 (ph : Bool) (d : Nat) (L st : List zV) (M : zM) : zEv ph d 310 4 L st M = zcont ph d 310 (zstep ph (zEm ph d) 5 5 0 [2] L st M) := zEv_step rfl
theorem e310_5 (ph : Bool) (d : Nat) (L st : List zV) (M : zM) : zEv ph d 310 5 L st M = zcont ph d 310 (zstep ph (zEm ph d) 2 6 0 [2] L st M) := zEv_step rfl
theorem e310_6 (ph : Bool) (d : Nat) (L st : List zV) (M : zM) : zEv ph d 310 6 L st M = zcont ph d 310 (zstep ph (zEm ph d) 2 7 0 [1] L st M) := zEv_step rfl
theorem e310_7 (ph : Bool) (d : Nat) (L st : List zV) (M : zM) : zEv ph d 310 7 L st M = zcont ph d 310 (zstep ph (zEm ph d) 70 10 319 [1, 1, -1] L st M) := zEv_step rfl
theorem e310_10 (ph : Bool) (d : Nat) (L st : List zV) (M : zM) : zEv ph d 310 10 L st M = zcont ph d 310 (zstep ph (zEm ph d) 10 11 0 [] L st M) := zEv_step rfl
theorem e310_11 (ph : Bool) (d : Nat) (L st : List zV) (M : zM) : zEv ph d 310 11 L st M = zcont ph d 310 (zstep ph (zEm ph d) 5 12 0 [3] L st M) := zEv_step rfl
theorem e310_12 (ph : Bool) (d : Nat) (L st : List zV) (M : zM) : zEv ph d 310 12 L st M = zcont ph d 310 (zstep ph (zEm ph d) 4 13 0 [0] L st M) := zEv_step rfl
theorem e310_13 (ph : Bool) (d : Nat) (L st : List zV) (M : zM) : zEv ph d 310 13 L st M = zcont ph d 310 (zstep ph (zEm ph d) 2 14 0 [3] L st M) := zEv_step rfl
theorem e310_14 (ph : Bool) (d : Nat) (L st : List zV) (M : zM) : zEv ph d 310 14 L st M = zcont ph d 310 (zstep ph (zEm ph d) 70 17 302 [2, 0, 31] L st M) := zEv_step rfl
theorem e310_17 (ph : Bool) (d : Nat) (L st : List zV) (M : zM) : zEv ph d 310 17 L st M = zcont ph d 310 (zstep ph (zEm ph d) 4 18 0 [0] L st M) := zEv_step rfl
theorem e310_18 (ph : Bool) (d : Nat) (L st : List zV) (M : zM) : zEv ph d 310 18 L st M = zcont ph d 310 (zstep ph (zEm ph d) 70 21 311 [1, 1, 31] L st M) := zEv_step rfl
theorem e310_21 (ph : Bool) (d : Nat) (L st : List zV) (M : zM) : zEv ph d 310 21 L st M = zcont ph d 310 (zstep ph (zEm ph d) 40 24 37 [] L st M) := zEv_step rfl
theorem e310_24 (ph : Bool) (d : Nat) (L st : List zV) (M : zM) : zEv ph d 310 24 L st M = zcont ph d 310 (zstep ph (zEm ph d) 2 25 0 [1] L st M) := zEv_step rfl
theorem e310_25 (ph : Bool) (d : Nat) (L st : List zV) (M : zM) : zEv ph d 310 25 L st M = zcont ph d 310 (zstep ph (zEm ph d) 2 26 0 [3] L st M) := zEv_step rfl
theorem e310_26 (ph : Bool) (d : Nat) (L st : List zV) (M : zM) : zEv ph d 310 26 L st M = zcont ph d 310 (zstep ph (zEm ph d) 4 27 0 [0] L st M) := zEv_step rfl
theorem e310_27 (ph : Bool) (d : Nat) (L st : List zV) (M : zM) : zEv ph d 310 27 L st M = zcont ph d 310 (zstep ph (zEm ph d) 64 30 0 [31, 0, 13] L st M) := zEv_step rfl
theorem e310_30 (ph : Bool) (d : Nat) (L st : List zV) (M : zM) : zEv ph d 310 30 L st M = zcont ph d 310 (zstep ph (zEm ph d) 70 33 318 [3, 1, -1] L st M) := zEv_step rfl
theorem e310_33 (ph : Bool) (d : Nat) (L st : List zV) (M : zM) : zEv ph d 310 33 L st M = zcont ph d 310 (zstep ph (zEm ph d) 38 34 0 [] L st M) := zEv_step rfl
theorem e310_34 (ph : Bool) (d : Nat) (L st : List zV) (M : zM) : zEv ph d 310 34 L st M = zcont ph d 310 (zstep ph (zEm ph d) 52 37 48 [] L st M) := zEv_step rfl
theorem e310_37 (ph : Bool) (d : Nat) (L st : List zV) (M : zM) : zEv ph d 310 37 L st M = zcont ph d 310 (zstep ph (zEm ph d) 2 38 0 [1] L st M) := zEv_step rfl
theorem e310_38 (ph : Bool) (d : Nat) (L st : List zV) (M : zM) : zEv ph d 310 38 L st M = zcont ph d 310 (zstep ph (zEm ph d) 2 39 0 [2] L st M) := zEv_step rfl
theorem e310_39 (ph : Bool) (d : Nat) (L st : List zV) (M : zM) : zEv ph d 310 39 L st M = zcont ph d 310 (zstep ph (zEm ph d) 2 40 0 [3] L st M) := zEv_step rfl
theorem e310_40 (ph : Bool) (d : Nat) (L st : List zV) (M : zM) : zEv ph d 310 40 L st M = zcont ph d 310 (zstep ph (zEm ph d) 4 41 0 [0] L st M) := zEv_step rfl
theorem e310_41 (ph : Bool) (d : Nat) (L st : List zV) (M : zM) : zEv ph d 310 41 L st M = zcont ph d 310 (zstep ph (zEm ph d) 64 44 0 [31, 0, 13] L st M) := zEv_step rfl
theorem e310_44 (ph : Bool) (d : Nat) (L st : List zV) (M : zM) : zEv ph d 310 44 L st M = zcont ph d 310 (zstep ph (zEm ph d) 70 47 357 [4, 1, -1] L st M) := zEv_step rfl
theorem e310_47 (ph : Bool) (d : Nat) (L st : List zV) (M : zM) : zEv ph d 310 47 L st M = zcont ph d 310 (zstep ph (zEm ph d) 38 48 0 [] L st M) := zEv_step rfl
theorem e310_48 (ph : Bool) (d : Nat) (L st : List zV) (M : zM) : zEv ph d 310 48 L st M = zcont ph d 310 (zstep ph (zEm ph d) 4 49 0 [0] L st M) := zEv_step rfl
theorem e310_49 (ph : Bool) (d : Nat) (L st : List zV) (M : zM) : zEv ph d 310 49 L st M = zcont ph d 310 (zstep ph (zEm ph d) 2 50 0 [3] L st M) := zEv_step rfl
theorem e310_50 (ph : Bool) (d : Nat) (L st : List zV) (M : zM) : zEv ph d 310 50 L st M = zcont ph d 310 (zstep ph (zEm ph d) 65 53 0 [31, 3] L st M) := zEv_step rfl
theorem e310_53 (ph : Bool) (d : Nat) (L st : List zV) (M : zM) : zEv ph d 310 53 L st M = zcont ph d 310 (zstep ph (zEm ph d) 4 54 0 [0] L st M) := zEv_step rfl
theorem e310_54 (ph : Bool) (d : Nat) (L st : List zV) (M : zM) : zEv ph d 310 54 L st M = zcont ph d 310 (zstep ph (zEm ph d) 82 55 0 [] L st M) := zEv_step rfl
theorem m336 (ph : Bool) (d : Nat) (a x0 p0 y0 : Int) (M : zM) : zEm ph (d + 1) 336 [(31, a, x0), (0, p0, y0)] M = zEv ph d 336 0 [(31, a, x0), (0, p0, y0)] [] M := rfl
theorem e336_0 (ph : Bool) (d : Nat) (L st : List zV) (M : zM) : zEv ph d 336 0 L st M = zcont ph d 336 (zstep ph (zEm ph d) 4 1 0 [0] L st M) := zEv_step rfl
theorem e336_1 (ph : Bool) (d : Nat) (L st : List zV) (M : zM) : zEv ph d 336 1 L st M = zcont ph d 336 (zstep ph (zEm ph d) 2 2 0 [1] L st M) := zEv_step rfl
theorem e336_2 (ph : Bool) (d : Nat) (L st : List zV) (M : zM) : zEv ph d 336 2 L st M = zcont ph d 336 (zstep ph (zEm ph d) 70 5 310 [2, 1, 31] L st M) := zEv_step rfl
theorem e336_5 (ph : Bool) (d : Nat) (L st : List zV) (M : zM) : zEv ph d 336 5 L st M = zcont ph d 336 (zstep ph (zEm ph d) 38 6 0 [] L st M) := zEv_step rfl
theorem e336_6 (ph : Bool) (d : Nat) (L st : List zV) (M : zM) : zEv ph d 336 6 L st M = zcont ph d 336 (zstep ph (zEm ph d) 4 7 0 [0] L st M) := zEv_step rfl
theorem e336_7 (ph : Bool) (d : Nat) (L st : List zV) (M : zM) : zEv ph d 336 7 L st M = zcont ph d 336 (zstep ph (zEm ph d) 82 8 0 [] L st M) := zEv_step rfl
theorem s_stringSize (d : Nat) (n y : Int) (M : zM) (n0 : 0 ≤ n) (n1 : n ≤ 1000) : zEm true (d + 1) 319 [(0, n, y)] M = some ((0, dLen n, 0), M) := by
  unfold dLen
  by_cases c1 : n < 10
  · rw [if_pos c1]
    simp (disch := first | assumption | exact zrm0 | exact zrm1 _ | exact zrm2 _ _ | exact zrm3 _ _ _ | exact zrm4 _ _ _ _ | omega) only [m319, ↓k_dp, ↓k_dn, k_dp, k_dn, k_dT, k_dF, k_ip, k_in, if_true, if_false, ne_eq, not_true_eq_false, not_false_eq_true, Int.reduceAdd, zup_a, zup_e, zup_j, z32_id, k_ic, k_is1, k_il0, k_iflt, k_ineg, k_is0, k_is2, k_is3, k_il3, k_icge, k_il2, k_icle, k_il1, k_iadd, k_ri, k_imul, k_inc3, k_goto, e319_0, e319_1, e319_2, e319_3, e319_6, e319_7, e319_8, e319_9, e319_10, e319_11, e319_13, e319_14, e319_15, e319_16, e319_17, e319_19, e319_22, e319_23, e319_24, e319_27, e319_28, e319_29, e319_30, e319_31, e319_33, e319_34, e319_35, e319_36, e319_39, e319_42, e319_44, e319_45, e319_46, Int.reduceMul, Int.reduceNeg]
  rw [if_neg c1]
  by_cases c2 : n < 100
  · rw [if_pos c2]
    simp (disch := first | assumption | exact zrm0 | exact zrm1 _ | exact zrm2 _ _ | exact zrm3 _ _ _ | exact zrm4 _ _ _ _ | omega) only [m319, ↓k_dp, ↓k_dn, k_dp, k_dn, k_dT, k_dF, k_ip, k_in, if_true, if_false, ne_eq, not_true_eq_false, not_false_eq_true, Int.reduceAdd, zup_a, zup_e, zup_j, z32_id, k_ic, k_is1, k_il0, k_iflt, k_ineg, k_is0, k_is2, k_is3, k_il3, k_icge, k_il2, k_icle, k_il1, k_iadd, k_ri, k_imul, k_inc3, k_goto, e319_0, e319_1, e319_2, e319_3, e319_6, e319_7, e319_8, e319_9, e319_10, e319_11, e319_13, e319_14, e319_15, e319_16, e319_17, e319_19, e319_22, e319_23, e319_24, e319_27, e319_28, e319_29, e319_30, e319_31, e319_33, e319_34, e319_35, e319_36, e319_39, e319_42, e319_44, e319_45, e319_46, Int.reduceMul, Int.reduceNeg]
  rw [if_neg c2]
  by_cases c3 : n < 1000
  · rw [if_pos c3]
    simp (disch := first | assumption | exact zrm0 | exact zrm1 _ | exact zrm2 _ _ | exact zrm3 _ _ _ | exact zrm4 _ _ _ _ | omega) only [m319, ↓k_dp, ↓k_dn, k_dp, k_dn, k_dT, k_dF, k_ip, k_in, if_true, if_false, ne_eq, not_true_eq_false, not_false_eq_true, Int.reduceAdd, zup_a, zup_e, zup_j, z32_id, k_ic, k_is1, k_il0, k_iflt, k_ineg, k_is0, k_is2, k_is3, k_il3, k_icge, k_il2, k_icle, k_il1, k_iadd, k_ri, k_imul, k_inc3, k_goto, e319_0, e319_1, e319_2, e319_3, e319_6, e319_7, e319_8, e319_9, e319_10, e319_11, e319_13, e319_14, e319_15, e319_16, e319_17, e319_19, e319_22, e319_23, e319_24, e319_27, e319_28, e319_29, e319_30, e319_31, e319_33, e319_34, e319_35, e319_36, e319_39, e319_42, e319_44, e319_45, e319_46, Int.reduceMul, Int.reduceNeg]
  rw [if_neg c3]
  simp (disch := first | assumption | exact zrm0 | exact zrm1 _ | exact zrm2 _ _ | exact zrm3 _ _ _ | exact zrm4 _ _ _ _ | omega) only [m319, ↓k_dp, ↓k_dn, k_dp, k_dn, k_dT, k_dF, k_ip, k_in, if_true, if_false, ne_eq, not_true_eq_false, not_false_eq_true, Int.reduceAdd, zup_a, zup_e, zup_j, z32_id, k_ic, k_is1, k_il0, k_iflt, k_ineg, k_is0, k_is2, k_is3, k_il3, k_icge, k_il2, k_icle, k_il1, k_iadd, k_ri, k_imul, k_inc3, k_goto, e319_0, e319_1, e319_2, e319_3, e319_6, e319_7, e319_8, e319_9, e319_10, e319_11, e319_13, e319_14, e319_15, e319_16, e319_17, e319_19, e319_22, e319_23, e319_24, e319_27, e319_28, e319_29, e319_30, e319_31, e319_33, e319_34, e319_35, e319_36, e319_39, e319_42, e319_44, e319_45, e319_46, Int.reduceMul, Int.reduceNeg]
theorem s_getChars (d : Nat) (n y m y1 a k : Int) (M : zM) (n0 : 0 ≤ n) (n1 : n ≤ 1000) (hm : dLen n ≤ m) (hk : m ≤ k) (k1 : k ≤ 64) (ha : 0 ≤ a) : ∃ M', zEm true (d + 1) 318 [(0, n, y), (0, m, y1), (13, a, k)] M = some ((0, m - dLen n, 0), M') ∧ (∀ i, 0 ≤ i → i < dLen n → M' a (m - dLen n + i) = dDig n i) ∧ ∀ x i, ¬ (x = a ∧ m - dLen n ≤ i ∧ i < m) → M' x i = M x i := by
  have hz0 : ∀ i, zsta 7 0 i = 48 + i % 10 := fun _ => rfl
  have hz1 : ∀ i, zsta 7 1 i = 48 + i / 10 := fun _ => rfl
  have hq : Int.tdiv (-n) 100 = -(n / 100) := by rw [Int.neg_tdiv, Int.tdiv_eq_ediv_of_nonneg n0]
  have a1 : m + -1 = m - 1 := by omega
  have a2 : m - 1 + -1 = m - 2 := by omega
  have a3 : m - 2 + -1 = m - 3 := by omega
  have a4 : m - 3 + -1 = m - 4 := by omega
  unfold dLen at hm ⊢
  unfold dDig
  by_cases c1 : n < 10
  · rw [if_pos c1] at hm ⊢
    refine ⟨zup M a (m - 1) (48 + n), ?_, fun i i0 i1 => ?_, fun x i h => ?_⟩
    · have h1 : n % 10 = n := by omega
      simp (disch := first | assumption | exact zrm0 | exact zrm1 _ | exact zrm2 _ _ | exact zrm3 _ _ _ | exact zrm4 _ _ _ _ | omega) only [m318, ↓k_dp, ↓k_dn, k_dp, k_dn, k_dT, k_dF, k_ip, k_in, if_true, if_false, ne_eq, not_true_eq_false, not_false_eq_true, Int.reduceAdd, zup_a, zup_e, zup_j, z32_id, k_il1, k_is5, k_il0, k_ifge, k_ic, k_goto, k_is6, k_il6, k_ifne, k_ineg, k_is0, k_icgt, k_idiv, k_is3, k_il3, k_imul, k_isub, k_is4, k_al2, k_inc5, k_il5, k_dig, k_il4, k_bldZ, k_bldB, k_bldD, k_bldT, k_bstZ, k_bstB, k_icge, k_ifeq, k_ri, e318_0, e318_1, e318_3, e318_4, e318_7, e318_8, e318_11, e318_12, e318_14, e318_16, e318_19, e318_20, e318_21, e318_22, e318_23, e318_25, e318_28, e318_29, e318_31, e318_32, e318_33, e318_34, e318_36, e318_37, e318_38, e318_39, e318_41, e318_42, e318_43, e318_44, e318_47, e318_49, e318_52, e318_54, e318_55, e318_56, e318_57, e318_60, e318_62, e318_65, e318_67, e318_68, e318_69, e318_72, e318_73, e318_76, e318_78, e318_81, e318_82, e318_83, e318_84, e318_85, e318_86, e318_88, e318_91, e318_92, e318_95, e318_97, e318_100, e318_101, e318_102, e318_103, e318_104, e318_106, e318_109, e318_110, e318_113, e318_115, e318_117, e318_118, e318_120, Int.neg_neg, hz0, hz1, h1, a1]
    · have e : i = 0 := by omega
      rw [if_pos c1, e, show m - 1 + 0 = m - 1 by omega, zup_e (by omega)]
    · unfold zup; rw [if_neg (by omega)]
  rw [if_neg c1] at hm ⊢
  by_cases c2 : n < 100
  · rw [if_pos c2] at hm ⊢
    refine ⟨zup (zup M a (m - 1) (48 + n % 10)) a (m - 2) (48 + n / 10), ?_, fun i i0 i1 => ?_, fun x i h => ?_⟩
    · simp (disch := first | assumption | exact zrm0 | exact zrm1 _ | exact zrm2 _ _ | exact zrm3 _ _ _ | exact zrm4 _ _ _ _ | omega) only [m318, ↓k_dp, ↓k_dn, k_dp, k_dn, k_dT, k_dF, k_ip, k_in, if_true, if_false, ne_eq, not_true_eq_false, not_false_eq_true, Int.reduceAdd, zup_a, zup_e, zup_j, z32_id, k_il1, k_is5, k_il0, k_ifge, k_ic, k_goto, k_is6, k_il6, k_ifne, k_ineg, k_is0, k_icgt, k_idiv, k_is3, k_il3, k_imul, k_isub, k_is4, k_al2, k_inc5, k_il5, k_dig, k_il4, k_bldZ, k_bldB, k_bldD, k_bldT, k_bstZ, k_bstB, k_icge, k_ifeq, k_ri, e318_0, e318_1, e318_3, e318_4, e318_7, e318_8, e318_11, e318_12, e318_14, e318_16, e318_19, e318_20, e318_21, e318_22, e318_23, e318_25, e318_28, e318_29, e318_31, e318_32, e318_33, e318_34, e318_36, e318_37, e318_38, e318_39, e318_41, e318_42, e318_43, e318_44, e318_47, e318_49, e318_52, e318_54, e318_55, e318_56, e318_57, e318_60, e318_62, e318_65, e318_67, e318_68, e318_69, e318_72, e318_73, e318_76, e318_78, e318_81, e318_82, e318_83, e318_84, e318_85, e318_86, e318_88, e318_91, e318_92, e318_95, e318_97, e318_100, e318_101, e318_102, e318_103, e318_104, e318_106, e318_109, e318_110, e318_113, e318_115, e318_117, e318_118, e318_120, Int.neg_neg, hz0, hz1, a1, a2]
    · rw [if_neg c1, if_pos c2]
      by_cases e : i = 0
      · rw [if_pos e, e, show m - 2 + 0 = m - 2 by omega, zup_e (by omega)]
      · rw [if_neg e, show m - 2 + i = m - 1 by omega, zup_j (by omega), zup_e (by omega)]
    · unfold zup; rw [if_neg (by omega), if_neg (by omega)]
  rw [if_neg c2] at hm ⊢
  have hr : z32 (-(n / 100) * 100) - -n = n % 100 := by rw [z32_id (by omega) (by omega)]; omega
  by_cases c3 : n < 1000
  · rw [if_pos c3] at hm ⊢
    refine ⟨zup (zup (zup M a (m - 1) (48 + n % 10)) a (m - 2) (48 + n / 10 % 10)) a (m - 3) (48 + n / 100), ?_, fun i i0 i1 => ?_, fun x i h => ?_⟩
    · have h1 : n % 100 % 10 = n % 10 := by omega
      have h2 : n % 100 / 10 = n / 10 % 10 := by omega
      have h3 : n / 100 % 10 = n / 100 := by omega
      have h4 : -(n / 100) * 100 - -n = n % 100 := by omega
      simp (disch := first | assumption | exact zrm0 | exact zrm1 _ | exact zrm2 _ _ | exact zrm3 _ _ _ | exact zrm4 _ _ _ _ | omega) only [m318, ↓k_dp, ↓k_dn, k_dp, k_dn, k_dT, k_dF, k_ip, k_in, if_true, if_false, ne_eq, not_true_eq_false, not_false_eq_true, Int.reduceAdd, zup_a, zup_e, zup_j, z32_id, k_il1, k_is5, k_il0, k_ifge, k_ic, k_goto, k_is6, k_il6, k_ifne, k_ineg, k_is0, k_icgt, k_idiv, k_is3, k_il3, k_imul, k_isub, k_is4, k_al2, k_inc5, k_il5, k_dig, k_il4, k_bldZ, k_bldB, k_bldD, k_bldT, k_bstZ, k_bstB, k_icge, k_ifeq, k_ri, e318_0, e318_1, e318_3, e318_4, e318_7, e318_8, e318_11, e318_12, e318_14, e318_16, e318_19, e318_20, e318_21, e318_22, e318_23, e318_25, e318_28, e318_29, e318_31, e318_32, e318_33, e318_34, e318_36, e318_37, e318_38, e318_39, e318_41, e318_42, e318_43, e318_44, e318_47, e318_49, e318_52, e318_54, e318_55, e318_56, e318_57, e318_60, e318_62, e318_65, e318_67, e318_68, e318_69, e318_72, e318_73, e318_76, e318_78, e318_81, e318_82, e318_83, e318_84, e318_85, e318_86, e318_88, e318_91, e318_92, e318_95, e318_97, e318_100, e318_101, e318_102, e318_103, e318_104, e318_106, e318_109, e318_110, e318_113, e318_115, e318_117, e318_118, e318_120, Int.neg_neg, hz0, hz1, a1, a2, a3, hq, h4, h1, h2, h3]
    · rw [if_neg c1, if_neg c2, if_pos c3]
      by_cases e : i = 0
      · rw [if_pos e, e, show m - 3 + 0 = m - 3 by omega, zup_e (by omega)]
      rw [if_neg e]
      by_cases e1 : i = 1
      · rw [if_pos e1, e1, show m - 3 + 1 = m - 2 by omega, zup_j (by omega), zup_e (by omega)]
      · rw [if_neg e1, show m - 3 + i = m - 1 by omega, zup_j (by omega), zup_j (by omega), zup_e (by omega)]
    · unfold zup; rw [if_neg (by omega), if_neg (by omega), if_neg (by omega)]
  rw [if_neg c3] at hm ⊢
  have e : n = 1000 := by omega
  subst e
  have q1 : Int.tdiv (-1000) 100 = -10 := by decide
  refine ⟨zup (zup (zup (zup M a (m - 1) 48) a (m - 2) 48) a (m - 3) 48) a (m - 4) 49, ?_, fun i i0 i1 => ?_, fun x i h => ?_⟩
  · simp (disch := first | assumption | exact zrm0 | exact zrm1 _ | exact zrm2 _ _ | exact zrm3 _ _ _ | exact zrm4 _ _ _ _ | omega) only [m318, ↓k_dp, ↓k_dn, k_dp, k_dn, k_dT, k_dF, k_ip, k_in, if_true, if_false, ne_eq, not_true_eq_false, not_false_eq_true, Int.reduceAdd, zup_a, zup_e, zup_j, z32_id, k_il1, k_is5, k_il0, k_ifge, k_ic, k_goto, k_is6, k_il6, k_ifne, k_ineg, k_is0, k_icgt, k_idiv, k_is3, k_il3, k_imul, k_isub, k_is4, k_al2, k_inc5, k_il5, k_dig, k_il4, k_bldZ, k_bldB, k_bldD, k_bldT, k_bstZ, k_bstB, k_icge, k_ifeq, k_ri, e318_0, e318_1, e318_3, e318_4, e318_7, e318_8, e318_11, e318_12, e318_14, e318_16, e318_19, e318_20, e318_21, e318_22, e318_23, e318_25, e318_28, e318_29, e318_31, e318_32, e318_33, e318_34, e318_36, e318_37, e318_38, e318_39, e318_41, e318_42, e318_43, e318_44, e318_47, e318_49, e318_52, e318_54, e318_55, e318_56, e318_57, e318_60, e318_62, e318_65, e318_67, e318_68, e318_69, e318_72, e318_73, e318_76, e318_78, e318_81, e318_82, e318_83, e318_84, e318_85, e318_86, e318_88, e318_91, e318_92, e318_95, e318_97, e318_100, e318_101, e318_102, e318_103, e318_104, e318_106, e318_109, e318_110, e318_113, e318_115, e318_117, e318_118, e318_120, Int.neg_neg, hz0, hz1, a1, a2, a3, a4, q1, Int.reduceNeg, Int.reduceMul, Int.reduceSub, Int.reduceDiv]
    rfl
  · rw [if_neg c1, if_neg c2, if_neg c3]
    by_cases e : i = 0
    · rw [if_pos e, e, show m - 4 + 0 = m - 4 by omega, zup_e (by omega)]
    rw [if_neg e, zup_j (by omega)]
    by_cases e1 : i = 1
    · rw [show m - 4 + i = m - 3 by omega, zup_e (by omega)]
    rw [zup_j (by omega)]
    by_cases e2 : i = 2
    · rw [show m - 4 + i = m - 2 by omega, zup_e (by omega)]
    rw [zup_j (by omega), show m - 4 + i = m - 1 by omega, zup_e (by omega)]
  · unfold zup; rw [if_neg (by omega), if_neg (by omega), if_neg (by omega), if_neg (by omega)]
theorem dLen_bd (n : Int) : 1 ≤ dLen n ∧ dLen n ≤ 4 := by
  unfold dLen
  split
  · omega
  split
  · omega
  split <;> omega
theorem s_app3 (d : Nat) (y n y1 : Int) (M : zM) (hY : okY M) (n0 : 0 ≤ n) (n1 : n ≤ 1000) (hn : M 54 3 + dLen n ≤ 34) : ∃ M', zEm true (d + 5) 336 [(31, 54, y), (0, n, y1)] M = some ((31, 54, y), M') ∧ cT M M' (dLen n) (dDig n) := by
  have b5 := hY.2.2.2.2.1
  have hl := dLen_bd n
  have he := s_ensure d (M 54 3 + dLen n) y 0 M hY (by omega) (by omega)
  obtain ⟨k1, k2, k3, k4, k5, k6⟩ := cEns_ok (m := M 54 3 + dLen n) hY (by omega)
  obtain ⟨a1, a2, a3, a4, a5, a6⟩ := k1
  obtain ⟨P, p1, p2, p3⟩ := s_getChars (d + 2) n 0 (M 54 3 + dLen n) 0 (cEns M (M 54 3 + dLen n) 54 0) (cEns M (M 54 3 + dLen n) 54 1000) (cEns M (M 54 3 + dLen n)) n0 n1 (by omega) (by omega) (by omega) (by omega)
  have e1 : M 54 3 + dLen n - dLen n = M 54 3 := by omega
  rw [e1] at p2 p3
  refine ⟨zup P 54 3 (M 54 3 + dLen n), ?_, cT_wr hY rfl (by omega) (by omega) (zup_e (by omega)) (fun i i0 i1 => ?_) (fun x y h1 h2 => ?_)⟩
  · generalize cEns M (M 54 3 + dLen n) = N at *
    have hs := fun d y M => s_stringSize d n y M n0 n1
    generalize dLen n = L at *
    have h : zEm true (d + 4) 310 [(31, 54, y), (0, n, 0)] M = some ((31, 54, y), zup P 54 3 (M 54 3 + L)) := by
      simp (disch := first | assumption | exact zrm0 | exact zrm1 _ | exact zrm2 _ _ | exact zrm3 _ _ _ | exact zrm4 _ _ _ _ | omega) only [m310, ↓k_dp, ↓k_dn, k_dp, k_dn, k_dT, k_dF, k_ip, k_in, if_true, if_false, ne_eq, not_true_eq_false, not_false_eq_true, Int.reduceAdd, zup_a, zup_e, zup_j, z32_id, k_al0, k_gI, k_is2, k_il2, k_il1, k_s1r, k_iadd, k_is3, k_il3, k_v2, k_v1r, k_ifeq, k_gD, k_s3r, k_pop, k_goto, k_s4r, k_pI, k_ra, zb0_some, zb1_some, e310_0, e310_1, e310_4, e310_5, e310_6, e310_7, e310_10, e310_11, e310_12, e310_13, e310_14, e310_17, e310_18, e310_21, e310_24, e310_25, e310_26, e310_27, e310_30, e310_33, e310_34, e310_37, e310_38, e310_39, e310_40, e310_41, e310_44, e310_47, e310_48, e310_49, e310_50, e310_53, e310_54, he, hs, s_isLatin1, a4, p1]
    simp (disch := first | assumption | exact zrm0 | exact zrm1 _ | exact zrm2 _ _ | exact zrm3 _ _ _ | exact zrm4 _ _ _ _ | omega) only [m336, ↓k_dp, ↓k_dn, k_dp, k_dn, k_dT, k_dF, k_ip, k_in, if_true, if_false, ne_eq, not_true_eq_false, not_false_eq_true, Int.reduceAdd, zup_a, zup_e, zup_j, z32_id, k_al0, k_il1, k_v2r, k_pop, k_ra, zb0_some, zb1_some, e336_0, e336_1, e336_2, e336_5, e336_6, e336_7, h]
  · rw [zup_a (by omega)]
    exact p2 i i0 i1
  · rw [← p3 x y (by omega)]
    unfold zup
    rw [if_neg (by omega)]
