/-! acts of a state -/
theorem k_dT {α : Type} {A : True → α} {B : ¬ True → α} : dite True A B = A trivial := rfl
theorem k_dF {α : Type} {A : False → α} {B : ¬ False → α} : dite False A B = B not_false := rfl
theorem m124 (ph : Bool) (d : Nat) (a x0 p0 y0 p1 y1 p2 y2 : Int) (M : zM) : zEm ph (d + 1) 124 [(26, a, x0), (28, p0, y0), (0, p1, y1), (0, p2, y2)] M = zEv ph d 124 0 [(26, a, x0), (28, p0, y0), (0, p1, y1), (0, p2, y2)] [] M := rfl
theorem e124_0 (ph : Bool) (d : Nat) (L st : List zV) (M : zM) : zEv ph d 124 0 L st M = zcont ph d 124 (zstep ph (zEm ph d) 4 1 0 [0] L st M) := zEv_step rfl
theorem e124_1 (ph : Bool) (d : Nat) (L st : List zV) (M : zM) : zEv ph d 124 1 L st M = zcont ph d 124 (zstep ph (zEm ph d) 62 4 0 [26, 1, 2, 10, 10] L st M) := zEv_step rfl
theorem e124_4 (ph : Bool) (d : Nat) (L st : List zV) (M : zM) : zEv ph d 124 4 L st M = zcont ph d 124 (zstep ph (zEm ph d) 2 5 0 [2] L st M) := zEv_step rfl
theorem e124_5 (ph : Bool) (d : Nat) (L st : List zV) (M : zM) : zEv ph d 124 5 L st M = zcont ph d 124 (zstep ph (zEm ph d) 85 6 0 [] L st M) := zEv_step rfl
theorem e124_6 (ph : Bool) (d : Nat) (L st : List zV) (M : zM) : zEv ph d 124 6 L st M = zcont ph d 124 (zstep ph (zEm ph d) 2 7 0 [3] L st M) := zEv_step rfl
theorem e124_7 (ph : Bool) (d : Nat) (L st : List zV) (M : zM) : zEv ph d 124 7 L st M = zcont ph d 124 (zstep ph (zEm ph d) 4 8 0 [1] L st M) := zEv_step rfl
theorem e124_8 (ph : Bool) (d : Nat) (L st : List zV) (M : zM) : zEv ph d 124 8 L st M = zcont ph d 124 (zstep ph (zEm ph d) 60 11 0 [28, 10] L st M) := zEv_step rfl
theorem e124_11 (ph : Bool) (d : Nat) (L st : List zV) (M : zM) : zEv ph d 124 11 L st M = zcont ph d 124 (zstep ph (zEm ph d) 12 12 0 [] L st M) := zEv_step rfl
theorem e124_12 (ph : Bool) (d : Nat) (L st : List zV) (M : zM) : zEv ph d 124 12 L st M = zcont ph d 124 (zstep ph (zEm ph d) 49 15 17 [] L st M) := zEv_step rfl
theorem e124_15 (ph : Bool) (d : Nat) (L st : List zV) (M : zM) : zEv ph d 124 15 L st M = zcont ph d 124 (zstep ph (zEm ph d) 0 16 0 [1] L st M) := zEv_step rfl
theorem e124_16 (ph : Bool) (d : Nat) (L st : List zV) (M : zM) : zEv ph d 124 16 L st M = zcont ph d 124 (zstep ph (zEm ph d) 80 17 0 [] L st M) := zEv_step rfl
theorem e124_17 (ph : Bool) (d : Nat) (L st : List zV) (M : zM) : zEv ph d 124 17 L st M = zcont ph d 124 (zstep ph (zEm ph d) 4 18 0 [0] L st M) := zEv_step rfl
theorem e124_18 (ph : Bool) (d : Nat) (L st : List zV) (M : zM) : zEv ph d 124 18 L st M = zcont ph d 124 (zstep ph (zEm ph d) 62 21 0 [26, 0, 1, 10, 10] L st M) := zEv_step rfl
theorem e124_21 (ph : Bool) (d : Nat) (L st : List zV) (M : zM) : zEv ph d 124 21 L st M = zcont ph d 124 (zstep ph (zEm ph d) 2 22 0 [2] L st M) := zEv_step rfl
theorem e124_22 (ph : Bool) (d : Nat) (L st : List zV) (M : zM) : zEv ph d 124 22 L st M = zcont ph d 124 (zstep ph (zEm ph d) 85 23 0 [] L st M) := zEv_step rfl
theorem e124_23 (ph : Bool) (d : Nat) (L st : List zV) (M : zM) : zEv ph d 124 23 L st M = zcont ph d 124 (zstep ph (zEm ph d) 2 24 0 [3] L st M) := zEv_step rfl
theorem e124_24 (ph : Bool) (d : Nat) (L st : List zV) (M : zM) : zEv ph d 124 24 L st M = zcont ph d 124 (zstep ph (zEm ph d) 10 25 0 [] L st M) := zEv_step rfl
theorem e124_25 (ph : Bool) (d : Nat) (L st : List zV) (M : zM) : zEv ph d 124 25 L st M = zcont ph d 124 (zstep ph (zEm ph d) 0 27 0 [20] L st M) := zEv_step rfl
theorem e124_27 (ph : Bool) (d : Nat) (L st : List zV) (M : zM) : zEv ph d 124 27 L st M = zcont ph d 124 (zstep ph (zEm ph d) 51 30 32 [] L st M) := zEv_step rfl
theorem e124_30 (ph : Bool) (d : Nat) (L st : List zV) (M : zM) : zEv ph d 124 30 L st M = zcont ph d 124 (zstep ph (zEm ph d) 0 31 0 [2] L st M) := zEv_step rfl
theorem e124_31 (ph : Bool) (d : Nat) (L st : List zV) (M : zM) : zEv ph d 124 31 L st M = zcont ph d 124 (zstep ph (zEm ph d) 80 32 0 [] L st M) := zEv_step rfl
theorem e124_32 (ph : Bool) (d : Nat) (L st : List zV) (M : zM) : zEv ph d 124 32 L st M = zcont ph d 124 (zstep ph (zEm ph d) 4 33 0 [0] L st M) := zEv_step rfl
theorem e124_33 (ph : Bool) (d : Nat) (L st : List zV) (M : zM) : zEv ph d 124 33 L st M = zcont ph d 124 (zstep ph (zEm ph d) 62 36 0 [26, 1, 2, 10, 10] L st M) := zEv_step rfl
theorem e124_36 (ph : Bool) (d : Nat) (L st : List zV) (M : zM) : zEv ph d 124 36 L st M = zcont ph d 124 (zstep ph (zEm ph d) 2 37 0 [2] L st M) := zEv_step rfl
theorem e124_37 (ph : Bool) (d : Nat) (L st : List zV) (M : zM) : zEv ph d 124 37 L st M = zcont ph d 124 (zstep ph (zEm ph d) 37 38 0 [] L st M) := zEv_step rfl
theorem e124_38 (ph : Bool) (d : Nat) (L st : List zV) (M : zM) : zEv ph d 124 38 L st M = zcont ph d 124 (zstep ph (zEm ph d) 85 39 0 [] L st M) := zEv_step rfl
theorem e124_39 (ph : Bool) (d : Nat) (L st : List zV) (M : zM) : zEv ph d 124 39 L st M = zcont ph d 124 (zstep ph (zEm ph d) 2 40 0 [3] L st M) := zEv_step rfl
theorem e124_40 (ph : Bool) (d : Nat) (L st : List zV) (M : zM) : zEv ph d 124 40 L st M = zcont ph d 124 (zstep ph (zEm ph d) 4 41 0 [1] L st M) := zEv_step rfl
theorem e124_41 (ph : Bool) (d : Nat) (L st : List zV) (M : zM) : zEv ph d 124 41 L st M = zcont ph d 124 (zstep ph (zEm ph d) 60 44 0 [28, 10] L st M) := zEv_step rfl
theorem e124_44 (ph : Bool) (d : Nat) (L st : List zV) (M : zM) : zEv ph d 124 44 L st M = zcont ph d 124 (zstep ph (zEm ph d) 12 45 0 [] L st M) := zEv_step rfl
theorem e124_45 (ph : Bool) (d : Nat) (L st : List zV) (M : zM) : zEv ph d 124 45 L st M = zcont ph d 124 (zstep ph (zEm ph d) 11 46 0 [] L st M) := zEv_step rfl
theorem e124_46 (ph : Bool) (d : Nat) (L st : List zV) (M : zM) : zEv ph d 124 46 L st M = zcont ph d 124 (zstep ph (zEm ph d) 89 47 0 [] L st M) := zEv_step rfl
theorem e124_47 (ph : Bool) (d : Nat) (L st : List zV) (M : zM) : zEv ph d 124 47 L st M = zcont ph d 124 (zstep ph (zEm ph d) 4 48 0 [0] L st M) := zEv_step rfl
theorem e124_48 (ph : Bool) (d : Nat) (L st : List zV) (M : zM) : zEv ph d 124 48 L st M = zcont ph d 124 (zstep ph (zEm ph d) 62 51 0 [26, 0, 1, 10, 10] L st M) := zEv_step rfl
theorem e124_51 (ph : Bool) (d : Nat) (L st : List zV) (M : zM) : zEv ph d 124 51 L st M = zcont ph d 124 (zstep ph (zEm ph d) 2 52 0 [2] L st M) := zEv_step rfl
theorem e124_52 (ph : Bool) (d : Nat) (L st : List zV) (M : zM) : zEv ph d 124 52 L st M = zcont ph d 124 (zstep ph (zEm ph d) 37 53 0 [] L st M) := zEv_step rfl
theorem e124_53 (ph : Bool) (d : Nat) (L st : List zV) (M : zM) : zEv ph d 124 53 L st M = zcont ph d 124 (zstep ph (zEm ph d) 85 54 0 [] L st M) := zEv_step rfl
theorem e124_54 (ph : Bool) (d : Nat) (L st : List zV) (M : zM) : zEv ph d 124 54 L st M = zcont ph d 124 (zstep ph (zEm ph d) 2 55 0 [3] L st M) := zEv_step rfl
theorem e124_55 (ph : Bool) (d : Nat) (L st : List zV) (M : zM) : zEv ph d 124 55 L st M = zcont ph d 124 (zstep ph (zEm ph d) 10 56 0 [] L st M) := zEv_step rfl
theorem e124_56 (ph : Bool) (d : Nat) (L st : List zV) (M : zM) : zEv ph d 124 56 L st M = zcont ph d 124 (zstep ph (zEm ph d) 89 57 0 [] L st M) := zEv_step rfl
theorem e124_57 (ph : Bool) (d : Nat) (L st : List zV) (M : zM) : zEv ph d 124 57 L st M = zcont ph d 124 (zstep ph (zEm ph d) 0 58 0 [0] L st M) := zEv_step rfl
theorem e124_58 (ph : Bool) (d : Nat) (L st : List zV) (M : zM) : zEv ph d 124 58 L st M = zcont ph d 124 (zstep ph (zEm ph d) 80 59 0 [] L st M) := zEv_step rfl
theorem m125 (ph : Bool) (d : Nat) (a x0 p0 y0 : Int) (M : zM) : zEm ph (d + 1) 125 [(26, a, x0), (0, p0, y0)] M = zEv ph d 125 0 [(26, a, x0), (0, p0, y0)] [] M := rfl
theorem e125_0 (ph : Bool) (d : Nat) (L st : List zV) (M : zM) : zEv ph d 125 0 L st M = zcont ph d 125 (zstep ph (zEm ph d) 4 1 0 [0] L st M) := zEv_step rfl
theorem e125_1 (ph : Bool) (d : Nat) (L st : List zV) (M : zM) : zEv ph d 125 1 L st M = zcont ph d 125 (zstep ph (zEm ph d) 2 2 0 [1] L st M) := zEv_step rfl
theorem e125_2 (ph : Bool) (d : Nat) (L st : List zV) (M : zM) : zEv ph d 125 2 L st M = zcont ph d 125 (zstep ph (zEm ph d) 70 5 114 [2, 1, 26] L st M) := zEv_step rfl
theorem e125_5 (ph : Bool) (d : Nat) (L st : List zV) (M : zM) : zEv ph d 125 5 L st M = zcont ph d 125 (zstep ph (zEm ph d) 40 8 10 [] L st M) := zEv_step rfl
theorem e125_8 (ph : Bool) (d : Nat) (L st : List zV) (M : zM) : zEv ph d 125 8 L st M = zcont ph d 125 (zstep ph (zEm ph d) 0 9 0 [1] L st M) := zEv_step rfl
theorem e125_9 (ph : Bool) (d : Nat) (L st : List zV) (M : zM) : zEv ph d 125 9 L st M = zcont ph d 125 (zstep ph (zEm ph d) 80 10 0 [] L st M) := zEv_step rfl
theorem e125_10 (ph : Bool) (d : Nat) (L st : List zV) (M : zM) : zEv ph d 125 10 L st M = zcont ph d 125 (zstep ph (zEm ph d) 4 11 0 [0] L st M) := zEv_step rfl
theorem e125_11 (ph : Bool) (d : Nat) (L st : List zV) (M : zM) : zEv ph d 125 11 L st M = zcont ph d 125 (zstep ph (zEm ph d) 36 12 0 [] L st M) := zEv_step rfl
theorem e125_12 (ph : Bool) (d : Nat) (L st : List zV) (M : zM) : zEv ph d 125 12 L st M = zcont ph d 125 (zstep ph (zEm ph d) 60 15 0 [26, 8] L st M) := zEv_step rfl
theorem e125_15 (ph : Bool) (d : Nat) (L st : List zV) (M : zM) : zEv ph d 125 15 L st M = zcont ph d 125 (zstep ph (zEm ph d) 0 16 0 [1] L st M) := zEv_step rfl
theorem e125_16 (ph : Bool) (d : Nat) (L st : List zV) (M : zM) : zEv ph d 125 16 L st M = zcont ph d 125 (zstep ph (zEm ph d) 2 17 0 [1] L st M) := zEv_step rfl
theorem e125_17 (ph : Bool) (d : Nat) (L st : List zV) (M : zM) : zEv ph d 125 17 L st M = zcont ph d 125 (zstep ph (zEm ph d) 19 18 0 [] L st M) := zEv_step rfl
theorem e125_18 (ph : Bool) (d : Nat) (L st : List zV) (M : zM) : zEv ph d 125 18 L st M = zcont ph d 125 (zstep ph (zEm ph d) 17 19 0 [] L st M) := zEv_step rfl
theorem e125_19 (ph : Bool) (d : Nat) (L st : List zV) (M : zM) : zEv ph d 125 19 L st M = zcont ph d 125 (zstep ph (zEm ph d) 65 22 0 [26, 8] L st M) := zEv_step rfl
theorem e125_22 (ph : Bool) (d : Nat) (L st : List zV) (M : zM) : zEv ph d 125 22 L st M = zcont ph d 125 (zstep ph (zEm ph d) 0 23 0 [0] L st M) := zEv_step rfl
theorem e125_23 (ph : Bool) (d : Nat) (L st : List zV) (M : zM) : zEv ph d 125 23 L st M = zcont ph d 125 (zstep ph (zEm ph d) 80 24 0 [] L st M) := zEv_step rfl
theorem m126 (ph : Bool) (d : Nat) (a x0 p0 y0 : Int) (M : zM) : zEm ph (d + 1) 126 [(26, a, x0), (0, p0, y0)] M = zEv ph d 126 0 [(26, a, x0), (0, p0, y0)] [] M := rfl
theorem e126_0 (ph : Bool) (d : Nat) (L st : List zV) (M : zM) : zEv ph d 126 0 L st M = zcont ph d 126 (zstep ph (zEm ph d) 4 1 0 [0] L st M) := zEv_step rfl
theorem e126_1 (ph : Bool) (d : Nat) (L st : List zV) (M : zM) : zEv ph d 126 1 L st M = zcont ph d 126 (zstep ph (zEm ph d) 2 2 0 [1] L st M) := zEv_step rfl
theorem e126_2 (ph : Bool) (d : Nat) (L st : List zV) (M : zM) : zEv ph d 126 2 L st M = zcont ph d 126 (zstep ph (zEm ph d) 70 5 114 [2, 1, 26] L st M) := zEv_step rfl
theorem e126_5 (ph : Bool) (d : Nat) (L st : List zV) (M : zM) : zEv ph d 126 5 L st M = zcont ph d 126 (zstep ph (zEm ph d) 41 8 10 [] L st M) := zEv_step rfl
theorem e126_8 (ph : Bool) (d : Nat) (L st : List zV) (M : zM) : zEv ph d 126 8 L st M = zcont ph d 126 (zstep ph (zEm ph d) 0 9 0 [1] L st M) := zEv_step rfl
theorem e126_9 (ph : Bool) (d : Nat) (L st : List zV) (M : zM) : zEv ph d 126 9 L st M = zcont ph d 126 (zstep ph (zEm ph d) 80 10 0 [] L st M) := zEv_step rfl
theorem e126_10 (ph : Bool) (d : Nat) (L st : List zV) (M : zM) : zEv ph d 126 10 L st M = zcont ph d 126 (zstep ph (zEm ph d) 4 11 0 [0] L st M) := zEv_step rfl
theorem e126_11 (ph : Bool) (d : Nat) (L st : List zV) (M : zM) : zEv ph d 126 11 L st M = zcont ph d 126 (zstep ph (zEm ph d) 36 12 0 [] L st M) := zEv_step rfl
theorem e126_12 (ph : Bool) (d : Nat) (L st : List zV) (M : zM) : zEv ph d 126 12 L st M = zcont ph d 126 (zstep ph (zEm ph d) 60 15 0 [26, 8] L st M) := zEv_step rfl
theorem e126_15 (ph : Bool) (d : Nat) (L st : List zV) (M : zM) : zEv ph d 126 15 L st M = zcont ph d 126 (zstep ph (zEm ph d) 0 16 0 [1] L st M) := zEv_step rfl
theorem e126_16 (ph : Bool) (d : Nat) (L st : List zV) (M : zM) : zEv ph d 126 16 L st M = zcont ph d 126 (zstep ph (zEm ph d) 2 17 0 [1] L st M) := zEv_step rfl
theorem e126_17 (ph : Bool) (d : Nat) (L st : List zV) (M : zM) : zEv ph d 126 17 L st M = zcont ph d 126 (zstep ph (zEm ph d) 19 18 0 [] L st M) := zEv_step rfl
theorem e126_18 (ph : Bool) (d : Nat) (L st : List zV) (M : zM) : zEv ph d 126 18 L st M = zcont ph d 126 (zstep ph (zEm ph d) 0 19 0 [-1] L st M) := zEv_step rfl
theorem e126_19 (ph : Bool) (d : Nat) (L st : List zV) (M : zM) : zEv ph d 126 19 L st M = zcont ph d 126 (zstep ph (zEm ph d) 18 20 0 [] L st M) := zEv_step rfl
theorem e126_20 (ph : Bool) (d : Nat) (L st : List zV) (M : zM) : zEv ph d 126 20 L st M = zcont ph d 126 (zstep ph (zEm ph d) 16 21 0 [] L st M) := zEv_step rfl
theorem e126_21 (ph : Bool) (d : Nat) (L st : List zV) (M : zM) : zEv ph d 126 21 L st M = zcont ph d 126 (zstep ph (zEm ph d) 65 24 0 [26, 8] L st M) := zEv_step rfl
theorem e126_24 (ph : Bool) (d : Nat) (L st : List zV) (M : zM) : zEv ph d 126 24 L st M = zcont ph d 126 (zstep ph (zEm ph d) 0 25 0 [0] L st M) := zEv_step rfl
theorem e126_25 (ph : Bool) (d : Nat) (L st : List zV) (M : zM) : zEv ph d 126 25 L st M = zcont ph d 126 (zstep ph (zEm ph d) 80 26 0 [] L st M) := zEv_step rfl
theorem m131 (ph : Bool) (d : Nat) (a x0 p0 y0 p1 y1 : Int) (M : zM) : zEm ph (d + 1) 131 [(26, a, x0), (0, p0, y0), (0, p1, y1)] M = zEv ph d 131 0 [(26, a, x0), (0, p0, y0), (0, p1, y1)] [] M := rfl
theorem e131_0 (ph : Bool) (d : Nat) (L st : List zV) (M : zM) : zEv ph d 131 0 L st M = zcont ph d 131 (zstep ph (zEm ph d) 4 1 0 [0] L st M) := zEv_step rfl
theorem e131_1 (ph : Bool) (d : Nat) (L st : List zV) (M : zM) : zEv ph d 131 1 L st M = zcont ph d 131 (zstep ph (zEm ph d) 62 4 0 [26, 7, 8, 10, 2] L st M) := zEv_step rfl
theorem e131_4 (ph : Bool) (d : Nat) (L st : List zV) (M : zM) : zEv ph d 131 4 L st M = zcont ph d 131 (zstep ph (zEm ph d) 2 5 0 [1] L st M) := zEv_step rfl
theorem e131_5 (ph : Bool) (d : Nat) (L st : List zV) (M : zM) : zEv ph d 131 5 L st M = zcont ph d 131 (zstep ph (zEm ph d) 85 6 0 [] L st M) := zEv_step rfl
theorem e131_6 (ph : Bool) (d : Nat) (L st : List zV) (M : zM) : zEv ph d 131 6 L st M = zcont ph d 131 (zstep ph (zEm ph d) 2 7 0 [2] L st M) := zEv_step rfl
theorem e131_7 (ph : Bool) (d : Nat) (L st : List zV) (M : zM) : zEv ph d 131 7 L st M = zcont ph d 131 (zstep ph (zEm ph d) 47 10 12 [] L st M) := zEv_step rfl
theorem e131_10 (ph : Bool) (d : Nat) (L st : List zV) (M : zM) : zEv ph d 131 10 L st M = zcont ph d 131 (zstep ph (zEm ph d) 0 11 0 [1] L st M) := zEv_step rfl
theorem e131_11 (ph : Bool) (d : Nat) (L st : List zV) (M : zM) : zEv ph d 131 11 L st M = zcont ph d 131 (zstep ph (zEm ph d) 80 12 0 [] L st M) := zEv_step rfl
theorem e131_12 (ph : Bool) (d : Nat) (L st : List zV) (M : zM) : zEv ph d 131 12 L st M = zcont ph d 131 (zstep ph (zEm ph d) 4 13 0 [0] L st M) := zEv_step rfl
theorem e131_13 (ph : Bool) (d : Nat) (L st : List zV) (M : zM) : zEv ph d 131 13 L st M = zcont ph d 131 (zstep ph (zEm ph d) 62 16 0 [26, 7, 8, 10, 2] L st M) := zEv_step rfl
theorem e131_16 (ph : Bool) (d : Nat) (L st : List zV) (M : zM) : zEv ph d 131 16 L st M = zcont ph d 131 (zstep ph (zEm ph d) 2 17 0 [1] L st M) := zEv_step rfl
theorem e131_17 (ph : Bool) (d : Nat) (L st : List zV) (M : zM) : zEv ph d 131 17 L st M = zcont ph d 131 (zstep ph (zEm ph d) 2 18 0 [2] L st M) := zEv_step rfl
theorem e131_18 (ph : Bool) (d : Nat) (L st : List zV) (M : zM) : zEv ph d 131 18 L st M = zcont ph d 131 (zstep ph (zEm ph d) 89 19 0 [] L st M) := zEv_step rfl
theorem e131_19 (ph : Bool) (d : Nat) (L st : List zV) (M : zM) : zEv ph d 131 19 L st M = zcont ph d 131 (zstep ph (zEm ph d) 0 20 0 [0] L st M) := zEv_step rfl
theorem e131_20 (ph : Bool) (d : Nat) (L st : List zV) (M : zM) : zEv ph d 131 20 L st M = zcont ph d 131 (zstep ph (zEm ph d) 80 21 0 [] L st M) := zEv_step rfl
theorem m132 (ph : Bool) (d : Nat) (a x0 p0 y0 : Int) (M : zM) : zEm ph (d + 1) 132 [(26, a, x0), (0, p0, y0)] M = zEv ph d 132 0 [(26, a, x0), (0, p0, y0)] [] M := rfl
theorem e132_0 (ph : Bool) (d : Nat) (L st : List zV) (M : zM) : zEv ph d 132 0 L st M = zcont ph d 132 (zstep ph (zEm ph d) 4 1 0 [0] L st M) := zEv_step rfl
theorem e132_1 (ph : Bool) (d : Nat) (L st : List zV) (M : zM) : zEv ph d 132 1 L st M = zcont ph d 132 (zstep ph (zEm ph d) 60 4 0 [26, 9] L st M) := zEv_step rfl
theorem e132_4 (ph : Bool) (d : Nat) (L st : List zV) (M : zM) : zEv ph d 132 4 L st M = zcont ph d 132 (zstep ph (zEm ph d) 2 5 0 [1] L st M) := zEv_step rfl
theorem e132_5 (ph : Bool) (d : Nat) (L st : List zV) (M : zM) : zEv ph d 132 5 L st M = zcont ph d 132 (zstep ph (zEm ph d) 47 8 10 [] L st M) := zEv_step rfl
theorem e132_8 (ph : Bool) (d : Nat) (L st : List zV) (M : zM) : zEv ph d 132 8 L st M = zcont ph d 132 (zstep ph (zEm ph d) 0 9 0 [1] L st M) := zEv_step rfl
theorem e132_9 (ph : Bool) (d : Nat) (L st : List zV) (M : zM) : zEv ph d 132 9 L st M = zcont ph d 132 (zstep ph (zEm ph d) 80 10 0 [] L st M) := zEv_step rfl
theorem e132_10 (ph : Bool) (d : Nat) (L st : List zV) (M : zM) : zEv ph d 132 10 L st M = zcont ph d 132 (zstep ph (zEm ph d) 4 11 0 [0] L st M) := zEv_step rfl
theorem e132_11 (ph : Bool) (d : Nat) (L st : List zV) (M : zM) : zEv ph d 132 11 L st M = zcont ph d 132 (zstep ph (zEm ph d) 2 12 0 [1] L st M) := zEv_step rfl
theorem e132_12 (ph : Bool) (d : Nat) (L st : List zV) (M : zM) : zEv ph d 132 12 L st M = zcont ph d 132 (zstep ph (zEm ph d) 65 15 0 [26, 9] L st M) := zEv_step rfl
theorem e132_15 (ph : Bool) (d : Nat) (L st : List zV) (M : zM) : zEv ph d 132 15 L st M = zcont ph d 132 (zstep ph (zEm ph d) 0 16 0 [0] L st M) := zEv_step rfl
theorem e132_16 (ph : Bool) (d : Nat) (L st : List zV) (M : zM) : zEv ph d 132 16 L st M = zcont ph d 132 (zstep ph (zEm ph d) 80 17 0 [] L st M) := zEv_step rfl
theorem m115 (ph : Bool) (d : Nat) (a x0 p0 y0 p1 y1 : Int) (M : zM) : zEm ph (d + 1) 115 [(26, a, x0), (0, p0, y0), (0, p1, y1)] M = zEv ph d 115 0 [(26, a, x0), (0, p0, y0), (0, p1, y1)] [] M := rfl
theorem e115_0 (ph : Bool) (d : Nat) (L st : List zV) (M : zM) : zEv ph d 115 0 L st M = zcont ph d 115 (zstep ph (zEm ph d) 4 1 0 [0] L st M) := zEv_step rfl
theorem e115_1 (ph : Bool) (d : Nat) (L st : List zV) (M : zM) : zEv ph d 115 1 L st M = zcont ph d 115 (zstep ph (zEm ph d) 62 4 0 [26, 2, 3, 10, 5] L st M) := zEv_step rfl
theorem e115_4 (ph : Bool) (d : Nat) (L st : List zV) (M : zM) : zEv ph d 115 4 L st M = zcont ph d 115 (zstep ph (zEm ph d) 2 5 0 [2] L st M) := zEv_step rfl
theorem e115_5 (ph : Bool) (d : Nat) (L st : List zV) (M : zM) : zEv ph d 115 5 L st M = zcont ph d 115 (zstep ph (zEm ph d) 85 6 0 [] L st M) := zEv_step rfl
theorem e115_6 (ph : Bool) (d : Nat) (L st : List zV) (M : zM) : zEv ph d 115 6 L st M = zcont ph d 115 (zstep ph (zEm ph d) 2 7 0 [1] L st M) := zEv_step rfl
theorem e115_7 (ph : Bool) (d : Nat) (L st : List zV) (M : zM) : zEv ph d 115 7 L st M = zcont ph d 115 (zstep ph (zEm ph d) 20 8 0 [] L st M) := zEv_step rfl
theorem e115_8 (ph : Bool) (d : Nat) (L st : List zV) (M : zM) : zEv ph d 115 8 L st M = zcont ph d 115 (zstep ph (zEm ph d) 0 9 0 [1] L st M) := zEv_step rfl
theorem e115_9 (ph : Bool) (d : Nat) (L st : List zV) (M : zM) : zEv ph d 115 9 L st M = zcont ph d 115 (zstep ph (zEm ph d) 16 10 0 [] L st M) := zEv_step rfl
theorem e115_10 (ph : Bool) (d : Nat) (L st : List zV) (M : zM) : zEv ph d 115 10 L st M = zcont ph d 115 (zstep ph (zEm ph d) 40 13 17 [] L st M) := zEv_step rfl
theorem e115_13 (ph : Bool) (d : Nat) (L st : List zV) (M : zM) : zEv ph d 115 13 L st M = zcont ph d 115 (zstep ph (zEm ph d) 0 14 0 [1] L st M) := zEv_step rfl
theorem e115_14 (ph : Bool) (d : Nat) (L st : List zV) (M : zM) : zEv ph d 115 14 L st M = zcont ph d 115 (zstep ph (zEm ph d) 52 17 18 [] L st M) := zEv_step rfl
theorem e115_17 (ph : Bool) (d : Nat) (L st : List zV) (M : zM) : zEv ph d 115 17 L st M = zcont ph d 115 (zstep ph (zEm ph d) 0 18 0 [0] L st M) := zEv_step rfl
theorem e115_18 (ph : Bool) (d : Nat) (L st : List zV) (M : zM) : zEv ph d 115 18 L st M = zcont ph d 115 (zstep ph (zEm ph d) 80 19 0 [0, 1] L st M) := zEv_step rfl
theorem m116 (ph : Bool) (d : Nat) (a x0 p0 y0 p1 y1 : Int) (M : zM) : zEm ph (d + 1) 116 [(26, a, x0), (0, p0, y0), (0, p1, y1)] M = zEv ph d 116 0 [(26, a, x0), (0, p0, y0), (0, p1, y1)] [] M := rfl
theorem e116_0 (ph : Bool) (d : Nat) (L st : List zV) (M : zM) : zEv ph d 116 0 L st M = zcont ph d 116 (zstep ph (zEm ph d) 4 1 0 [0] L st M) := zEv_step rfl
theorem e116_1 (ph : Bool) (d : Nat) (L st : List zV) (M : zM) : zEv ph d 116 1 L st M = zcont ph d 116 (zstep ph (zEm ph d) 62 4 0 [26, 3, 4, 10, 5] L st M) := zEv_step rfl
theorem e116_4 (ph : Bool) (d : Nat) (L st : List zV) (M : zM) : zEv ph d 116 4 L st M = zcont ph d 116 (zstep ph (zEm ph d) 2 5 0 [2] L st M) := zEv_step rfl
theorem e116_5 (ph : Bool) (d : Nat) (L st : List zV) (M : zM) : zEv ph d 116 5 L st M = zcont ph d 116 (zstep ph (zEm ph d) 85 6 0 [] L st M) := zEv_step rfl
theorem e116_6 (ph : Bool) (d : Nat) (L st : List zV) (M : zM) : zEv ph d 116 6 L st M = zcont ph d 116 (zstep ph (zEm ph d) 2 7 0 [1] L st M) := zEv_step rfl
theorem e116_7 (ph : Bool) (d : Nat) (L st : List zV) (M : zM) : zEv ph d 116 7 L st M = zcont ph d 116 (zstep ph (zEm ph d) 20 8 0 [] L st M) := zEv_step rfl
theorem e116_8 (ph : Bool) (d : Nat) (L st : List zV) (M : zM) : zEv ph d 116 8 L st M = zcont ph d 116 (zstep ph (zEm ph d) 0 9 0 [1] L st M) := zEv_step rfl
theorem e116_9 (ph : Bool) (d : Nat) (L st : List zV) (M : zM) : zEv ph d 116 9 L st M = zcont ph d 116 (zstep ph (zEm ph d) 16 10 0 [] L st M) := zEv_step rfl
theorem e116_10 (ph : Bool) (d : Nat) (L st : List zV) (M : zM) : zEv ph d 116 10 L st M = zcont ph d 116 (zstep ph (zEm ph d) 40 13 17 [] L st M) := zEv_step rfl
theorem e116_13 (ph : Bool) (d : Nat) (L st : List zV) (M : zM) : zEv ph d 116 13 L st M = zcont ph d 116 (zstep ph (zEm ph d) 0 14 0 [1] L st M) := zEv_step rfl
theorem e116_14 (ph : Bool) (d : Nat) (L st : List zV) (M : zM) : zEv ph d 116 14 L st M = zcont ph d 116 (zstep ph (zEm ph d) 52 17 18 [] L st M) := zEv_step rfl
theorem e116_17 (ph : Bool) (d : Nat) (L st : List zV) (M : zM) : zEv ph d 116 17 L st M = zcont ph d 116 (zstep ph (zEm ph d) 0 18 0 [0] L st M) := zEv_step rfl
theorem e116_18 (ph : Bool) (d : Nat) (L st : List zV) (M : zM) : zEv ph d 116 18 L st M = zcont ph d 116 (zstep ph (zEm ph d) 80 19 0 [0, 1] L st M) := zEv_step rfl
theorem m117 (ph : Bool) (d : Nat) (a x0 p0 y0 p1 y1 : Int) (M : zM) : zEm ph (d + 1) 117 [(26, a, x0), (0, p0, y0), (0, p1, y1)] M = zEv ph d 117 0 [(26, a, x0), (0, p0, y0), (0, p1, y1)] [] M := rfl
theorem e117_0 (ph : Bool) (d : Nat) (L st : List zV) (M : zM) : zEv ph d 117 0 L st M = zcont ph d 117 (zstep ph (zEm ph d) 4 1 0 [0] L st M) := zEv_step rfl
theorem e117_1 (ph : Bool) (d : Nat) (L st : List zV) (M : zM) : zEv ph d 117 1 L st M = zcont ph d 117 (zstep ph (zEm ph d) 2 2 0 [1] L st M) := zEv_step rfl
theorem e117_2 (ph : Bool) (d : Nat) (L st : List zV) (M : zM) : zEv ph d 117 2 L st M = zcont ph d 117 (zstep ph (zEm ph d) 2 3 0 [2] L st M) := zEv_step rfl
theorem e117_3 (ph : Bool) (d : Nat) (L st : List zV) (M : zM) : zEv ph d 117 3 L st M = zcont ph d 117 (zstep ph (zEm ph d) 70 6 115 [3, 1, 26] L st M) := zEv_step rfl
theorem e117_6 (ph : Bool) (d : Nat) (L st : List zV) (M : zM) : zEv ph d 117 6 L st M = zcont ph d 117 (zstep ph (zEm ph d) 40 9 11 [] L st M) := zEv_step rfl
theorem e117_9 (ph : Bool) (d : Nat) (L st : List zV) (M : zM) : zEv ph d 117 9 L st M = zcont ph d 117 (zstep ph (zEm ph d) 0 10 0 [0] L st M) := zEv_step rfl
theorem e117_10 (ph : Bool) (d : Nat) (L st : List zV) (M : zM) : zEv ph d 117 10 L st M = zcont ph d 117 (zstep ph (zEm ph d) 80 11 0 [] L st M) := zEv_step rfl
theorem e117_11 (ph : Bool) (d : Nat) (L st : List zV) (M : zM) : zEv ph d 117 11 L st M = zcont ph d 117 (zstep ph (zEm ph d) 4 12 0 [0] L st M) := zEv_step rfl
theorem e117_12 (ph : Bool) (d : Nat) (L st : List zV) (M : zM) : zEv ph d 117 12 L st M = zcont ph d 117 (zstep ph (zEm ph d) 2 13 0 [1] L st M) := zEv_step rfl
theorem e117_13 (ph : Bool) (d : Nat) (L st : List zV) (M : zM) : zEv ph d 117 13 L st M = zcont ph d 117 (zstep ph (zEm ph d) 2 14 0 [2] L st M) := zEv_step rfl
theorem e117_14 (ph : Bool) (d : Nat) (L st : List zV) (M : zM) : zEv ph d 117 14 L st M = zcont ph d 117 (zstep ph (zEm ph d) 70 17 116 [3, 1, 26] L st M) := zEv_step rfl
theorem e117_17 (ph : Bool) (d : Nat) (L st : List zV) (M : zM) : zEv ph d 117 17 L st M = zcont ph d 117 (zstep ph (zEm ph d) 40 20 24 [] L st M) := zEv_step rfl
theorem e117_20 (ph : Bool) (d : Nat) (L st : List zV) (M : zM) : zEv ph d 117 20 L st M = zcont ph d 117 (zstep ph (zEm ph d) 0 21 0 [1] L st M) := zEv_step rfl
theorem e117_21 (ph : Bool) (d : Nat) (L st : List zV) (M : zM) : zEv ph d 117 21 L st M = zcont ph d 117 (zstep ph (zEm ph d) 52 24 26 [] L st M) := zEv_step rfl
theorem e117_24 (ph : Bool) (d : Nat) (L st : List zV) (M : zM) : zEv ph d 117 24 L st M = zcont ph d 117 (zstep ph (zEm ph d) 0 26 0 [-2] L st M) := zEv_step rfl
theorem e117_26 (ph : Bool) (d : Nat) (L st : List zV) (M : zM) : zEv ph d 117 26 L st M = zcont ph d 117 (zstep ph (zEm ph d) 80 27 0 [] L st M) := zEv_step rfl
theorem m128 (ph : Bool) (d : Nat) (a x0 p0 y0 p1 y1 p2 y2 : Int) (M : zM) : zEm ph (d + 1) 128 [(26, a, x0), (0, p0, y0), (0, p1, y1), (0, p2, y2)] M = zEv ph d 128 0 [(26, a, x0), (0, p0, y0), (0, p1, y1), (0, p2, y2), (3, 0, 0)] [] M := rfl
theorem e128_0 (ph : Bool) (d : Nat) (L st : List zV) (M : zM) : zEv ph d 128 0 L st M = zcont ph d 128 (zstep ph (zEm ph d) 0 1 0 [1] L st M) := zEv_step rfl
theorem e128_1 (ph : Bool) (d : Nat) (L st : List zV) (M : zM) : zEv ph d 128 1 L st M = zcont ph d 128 (zstep ph (zEm ph d) 2 2 0 [1] L st M) := zEv_step rfl
theorem e128_2 (ph : Bool) (d : Nat) (L st : List zV) (M : zM) : zEv ph d 128 2 L st M = zcont ph d 128 (zstep ph (zEm ph d) 19 3 0 [] L st M) := zEv_step rfl
theorem e128_3 (ph : Bool) (d : Nat) (L st : List zV) (M : zM) : zEv ph d 128 3 L st M = zcont ph d 128 (zstep ph (zEm ph d) 5 5 0 [4] L st M) := zEv_step rfl
theorem e128_5 (ph : Bool) (d : Nat) (L st : List zV) (M : zM) : zEv ph d 128 5 L st M = zcont ph d 128 (zstep ph (zEm ph d) 4 6 0 [0] L st M) := zEv_step rfl
theorem e128_6 (ph : Bool) (d : Nat) (L st : List zV) (M : zM) : zEv ph d 128 6 L st M = zcont ph d 128 (zstep ph (zEm ph d) 62 9 0 [26, 2, 3, 10, 5] L st M) := zEv_step rfl
theorem e128_9 (ph : Bool) (d : Nat) (L st : List zV) (M : zM) : zEv ph d 128 9 L st M = zcont ph d 128 (zstep ph (zEm ph d) 2 10 0 [2] L st M) := zEv_step rfl
theorem e128_10 (ph : Bool) (d : Nat) (L st : List zV) (M : zM) : zEv ph d 128 10 L st M = zcont ph d 128 (zstep ph (zEm ph d) 2 11 0 [3] L st M) := zEv_step rfl
theorem e128_11 (ph : Bool) (d : Nat) (L st : List zV) (M : zM) : zEv ph d 128 11 L st M = zcont ph d 128 (zstep ph (zEm ph d) 41 14 26 [] L st M) := zEv_step rfl
theorem e128_14 (ph : Bool) (d : Nat) (L st : List zV) (M : zM) : zEv ph d 128 14 L st M = zcont ph d 128 (zstep ph (zEm ph d) 4 15 0 [0] L st M) := zEv_step rfl
theorem e128_15 (ph : Bool) (d : Nat) (L st : List zV) (M : zM) : zEv ph d 128 15 L st M = zcont ph d 128 (zstep ph (zEm ph d) 62 18 0 [26, 2, 3, 10, 5] L st M) := zEv_step rfl
theorem e128_18 (ph : Bool) (d : Nat) (L st : List zV) (M : zM) : zEv ph d 128 18 L st M = zcont ph d 128 (zstep ph (zEm ph d) 2 19 0 [2] L st M) := zEv_step rfl
theorem e128_19 (ph : Bool) (d : Nat) (L st : List zV) (M : zM) : zEv ph d 128 19 L st M = zcont ph d 128 (zstep ph (zEm ph d) 85 20 0 [] L st M) := zEv_step rfl
theorem e128_20 (ph : Bool) (d : Nat) (L st : List zV) (M : zM) : zEv ph d 128 20 L st M = zcont ph d 128 (zstep ph (zEm ph d) 2 22 0 [4] L st M) := zEv_step rfl
theorem e128_22 (ph : Bool) (d : Nat) (L st : List zV) (M : zM) : zEv ph d 128 22 L st M = zcont ph d 128 (zstep ph (zEm ph d) 17 23 0 [] L st M) := zEv_step rfl
theorem e128_23 (ph : Bool) (d : Nat) (L st : List zV) (M : zM) : zEv ph d 128 23 L st M = zcont ph d 128 (zstep ph (zEm ph d) 52 26 37 [] L st M) := zEv_step rfl
theorem e128_26 (ph : Bool) (d : Nat) (L st : List zV) (M : zM) : zEv ph d 128 26 L st M = zcont ph d 128 (zstep ph (zEm ph d) 4 27 0 [0] L st M) := zEv_step rfl
theorem e128_27 (ph : Bool) (d : Nat) (L st : List zV) (M : zM) : zEv ph d 128 27 L st M = zcont ph d 128 (zstep ph (zEm ph d) 62 30 0 [26, 2, 3, 10, 5] L st M) := zEv_step rfl
theorem e128_30 (ph : Bool) (d : Nat) (L st : List zV) (M : zM) : zEv ph d 128 30 L st M = zcont ph d 128 (zstep ph (zEm ph d) 2 31 0 [2] L st M) := zEv_step rfl
theorem e128_31 (ph : Bool) (d : Nat) (L st : List zV) (M : zM) : zEv ph d 128 31 L st M = zcont ph d 128 (zstep ph (zEm ph d) 85 32 0 [] L st M) := zEv_step rfl
theorem e128_32 (ph : Bool) (d : Nat) (L st : List zV) (M : zM) : zEv ph d 128 32 L st M = zcont ph d 128 (zstep ph (zEm ph d) 2 34 0 [4] L st M) := zEv_step rfl
theorem e128_34 (ph : Bool) (d : Nat) (L st : List zV) (M : zM) : zEv ph d 128 34 L st M = zcont ph d 128 (zstep ph (zEm ph d) 0 35 0 [-1] L st M) := zEv_step rfl
theorem e128_35 (ph : Bool) (d : Nat) (L st : List zV) (M : zM) : zEv ph d 128 35 L st M = zcont ph d 128 (zstep ph (zEm ph d) 18 36 0 [] L st M) := zEv_step rfl
theorem e128_36 (ph : Bool) (d : Nat) (L st : List zV) (M : zM) : zEv ph d 128 36 L st M = zcont ph d 128 (zstep ph (zEm ph d) 16 37 0 [] L st M) := zEv_step rfl
theorem e128_37 (ph : Bool) (d : Nat) (L st : List zV) (M : zM) : zEv ph d 128 37 L st M = zcont ph d 128 (zstep ph (zEm ph d) 89 38 0 [] L st M) := zEv_step rfl
theorem e128_38 (ph : Bool) (d : Nat) (L st : List zV) (M : zM) : zEv ph d 128 38 L st M = zcont ph d 128 (zstep ph (zEm ph d) 4 39 0 [0] L st M) := zEv_step rfl
theorem e128_39 (ph : Bool) (d : Nat) (L st : List zV) (M : zM) : zEv ph d 128 39 L st M = zcont ph d 128 (zstep ph (zEm ph d) 62 42 0 [26, 3, 4, 10, 5] L st M) := zEv_step rfl
theorem e128_42 (ph : Bool) (d : Nat) (L st : List zV) (M : zM) : zEv ph d 128 42 L st M = zcont ph d 128 (zstep ph (zEm ph d) 2 43 0 [2] L st M) := zEv_step rfl
theorem e128_43 (ph : Bool) (d : Nat) (L st : List zV) (M : zM) : zEv ph d 128 43 L st M = zcont ph d 128 (zstep ph (zEm ph d) 2 44 0 [3] L st M) := zEv_step rfl
theorem e128_44 (ph : Bool) (d : Nat) (L st : List zV) (M : zM) : zEv ph d 128 44 L st M = zcont ph d 128 (zstep ph (zEm ph d) 0 45 0 [1] L st M) := zEv_step rfl
theorem e128_45 (ph : Bool) (d : Nat) (L st : List zV) (M : zM) : zEv ph d 128 45 L st M = zcont ph d 128 (zstep ph (zEm ph d) 47 48 60 [] L st M) := zEv_step rfl
theorem e128_48 (ph : Bool) (d : Nat) (L st : List zV) (M : zM) : zEv ph d 128 48 L st M = zcont ph d 128 (zstep ph (zEm ph d) 4 49 0 [0] L st M) := zEv_step rfl
theorem e128_49 (ph : Bool) (d : Nat) (L st : List zV) (M : zM) : zEv ph d 128 49 L st M = zcont ph d 128 (zstep ph (zEm ph d) 62 52 0 [26, 3, 4, 10, 5] L st M) := zEv_step rfl
theorem e128_52 (ph : Bool) (d : Nat) (L st : List zV) (M : zM) : zEv ph d 128 52 L st M = zcont ph d 128 (zstep ph (zEm ph d) 2 53 0 [2] L st M) := zEv_step rfl
theorem e128_53 (ph : Bool) (d : Nat) (L st : List zV) (M : zM) : zEv ph d 128 53 L st M = zcont ph d 128 (zstep ph (zEm ph d) 85 54 0 [] L st M) := zEv_step rfl
theorem e128_54 (ph : Bool) (d : Nat) (L st : List zV) (M : zM) : zEv ph d 128 54 L st M = zcont ph d 128 (zstep ph (zEm ph d) 2 56 0 [4] L st M) := zEv_step rfl
theorem e128_56 (ph : Bool) (d : Nat) (L st : List zV) (M : zM) : zEv ph d 128 56 L st M = zcont ph d 128 (zstep ph (zEm ph d) 17 57 0 [] L st M) := zEv_step rfl
theorem e128_57 (ph : Bool) (d : Nat) (L st : List zV) (M : zM) : zEv ph d 128 57 L st M = zcont ph d 128 (zstep ph (zEm ph d) 52 60 71 [] L st M) := zEv_step rfl
theorem e128_60 (ph : Bool) (d : Nat) (L st : List zV) (M : zM) : zEv ph d 128 60 L st M = zcont ph d 128 (zstep ph (zEm ph d) 4 61 0 [0] L st M) := zEv_step rfl
theorem e128_61 (ph : Bool) (d : Nat) (L st : List zV) (M : zM) : zEv ph d 128 61 L st M = zcont ph d 128 (zstep ph (zEm ph d) 62 64 0 [26, 3, 4, 10, 5] L st M) := zEv_step rfl
theorem e128_64 (ph : Bool) (d : Nat) (L st : List zV) (M : zM) : zEv ph d 128 64 L st M = zcont ph d 128 (zstep ph (zEm ph d) 2 65 0 [2] L st M) := zEv_step rfl
theorem e128_65 (ph : Bool) (d : Nat) (L st : List zV) (M : zM) : zEv ph d 128 65 L st M = zcont ph d 128 (zstep ph (zEm ph d) 85 66 0 [] L st M) := zEv_step rfl
theorem e128_66 (ph : Bool) (d : Nat) (L st : List zV) (M : zM) : zEv ph d 128 66 L st M = zcont ph d 128 (zstep ph (zEm ph d) 2 68 0 [4] L st M) := zEv_step rfl
theorem e128_68 (ph : Bool) (d : Nat) (L st : List zV) (M : zM) : zEv ph d 128 68 L st M = zcont ph d 128 (zstep ph (zEm ph d) 0 69 0 [-1] L st M) := zEv_step rfl
theorem e128_69 (ph : Bool) (d : Nat) (L st : List zV) (M : zM) : zEv ph d 128 69 L st M = zcont ph d 128 (zstep ph (zEm ph d) 18 70 0 [] L st M) := zEv_step rfl
theorem e128_70 (ph : Bool) (d : Nat) (L st : List zV) (M : zM) : zEv ph d 128 70 L st M = zcont ph d 128 (zstep ph (zEm ph d) 16 71 0 [] L st M) := zEv_step rfl
theorem e128_71 (ph : Bool) (d : Nat) (L st : List zV) (M : zM) : zEv ph d 128 71 L st M = zcont ph d 128 (zstep ph (zEm ph d) 89 72 0 [] L st M) := zEv_step rfl
theorem e128_72 (ph : Bool) (d : Nat) (L st : List zV) (M : zM) : zEv ph d 128 72 L st M = zcont ph d 128 (zstep ph (zEm ph d) 83 73 0 [] L st M) := zEv_step rfl
theorem m127 (ph : Bool) (d : Nat) (a x0 p0 y0 p1 y1 p2 y2 : Int) (M : zM) : zEm ph (d + 1) 127 [(26, a, x0), (0, p0, y0), (0, p1, y1), (0, p2, y2)] M = zEv ph d 127 0 [(26, a, x0), (0, p0, y0), (0, p1, y1), (0, p2, y2)] [] M := rfl
theorem e127_0 (ph : Bool) (d : Nat) (L st : List zV) (M : zM) : zEv ph d 127 0 L st M = zcont ph d 127 (zstep ph (zEm ph d) 4 1 0 [0] L st M) := zEv_step rfl
theorem e127_1 (ph : Bool) (d : Nat) (L st : List zV) (M : zM) : zEv ph d 127 1 L st M = zcont ph d 127 (zstep ph (zEm ph d) 62 4 0 [26, 4, 5, 10, 5] L st M) := zEv_step rfl
theorem e127_4 (ph : Bool) (d : Nat) (L st : List zV) (M : zM) : zEv ph d 127 4 L st M = zcont ph d 127 (zstep ph (zEm ph d) 2 5 0 [2] L st M) := zEv_step rfl
theorem e127_5 (ph : Bool) (d : Nat) (L st : List zV) (M : zM) : zEv ph d 127 5 L st M = zcont ph d 127 (zstep ph (zEm ph d) 85 6 0 [] L st M) := zEv_step rfl
theorem e127_6 (ph : Bool) (d : Nat) (L st : List zV) (M : zM) : zEv ph d 127 6 L st M = zcont ph d 127 (zstep ph (zEm ph d) 40 9 11 [] L st M) := zEv_step rfl
theorem e127_9 (ph : Bool) (d : Nat) (L st : List zV) (M : zM) : zEv ph d 127 9 L st M = zcont ph d 127 (zstep ph (zEm ph d) 0 10 0 [1] L st M) := zEv_step rfl
theorem e127_10 (ph : Bool) (d : Nat) (L st : List zV) (M : zM) : zEv ph d 127 10 L st M = zcont ph d 127 (zstep ph (zEm ph d) 80 11 0 [] L st M) := zEv_step rfl
theorem e127_11 (ph : Bool) (d : Nat) (L st : List zV) (M : zM) : zEv ph d 127 11 L st M = zcont ph d 127 (zstep ph (zEm ph d) 4 12 0 [0] L st M) := zEv_step rfl
theorem e127_12 (ph : Bool) (d : Nat) (L st : List zV) (M : zM) : zEv ph d 127 12 L st M = zcont ph d 127 (zstep ph (zEm ph d) 2 13 0 [1] L st M) := zEv_step rfl
theorem e127_13 (ph : Bool) (d : Nat) (L st : List zV) (M : zM) : zEv ph d 127 13 L st M = zcont ph d 127 (zstep ph (zEm ph d) 2 14 0 [2] L st M) := zEv_step rfl
theorem e127_14 (ph : Bool) (d : Nat) (L st : List zV) (M : zM) : zEv ph d 127 14 L st M = zcont ph d 127 (zstep ph (zEm ph d) 70 17 117 [3, 1, 26] L st M) := zEv_step rfl
theorem e127_17 (ph : Bool) (d : Nat) (L st : List zV) (M : zM) : zEv ph d 127 17 L st M = zcont ph d 127 (zstep ph (zEm ph d) 2 18 0 [3] L st M) := zEv_step rfl
theorem e127_18 (ph : Bool) (d : Nat) (L st : List zV) (M : zM) : zEv ph d 127 18 L st M = zcont ph d 127 (zstep ph (zEm ph d) 47 21 23 [] L st M) := zEv_step rfl
theorem e127_21 (ph : Bool) (d : Nat) (L st : List zV) (M : zM) : zEv ph d 127 21 L st M = zcont ph d 127 (zstep ph (zEm ph d) 0 22 0 [2] L st M) := zEv_step rfl
theorem e127_22 (ph : Bool) (d : Nat) (L st : List zV) (M : zM) : zEv ph d 127 22 L st M = zcont ph d 127 (zstep ph (zEm ph d) 80 23 0 [] L st M) := zEv_step rfl
theorem e127_23 (ph : Bool) (d : Nat) (L st : List zV) (M : zM) : zEv ph d 127 23 L st M = zcont ph d 127 (zstep ph (zEm ph d) 4 24 0 [0] L st M) := zEv_step rfl
theorem e127_24 (ph : Bool) (d : Nat) (L st : List zV) (M : zM) : zEv ph d 127 24 L st M = zcont ph d 127 (zstep ph (zEm ph d) 2 25 0 [1] L st M) := zEv_step rfl
theorem e127_25 (ph : Bool) (d : Nat) (L st : List zV) (M : zM) : zEv ph d 127 25 L st M = zcont ph d 127 (zstep ph (zEm ph d) 2 26 0 [2] L st M) := zEv_step rfl
theorem e127_26 (ph : Bool) (d : Nat) (L st : List zV) (M : zM) : zEv ph d 127 26 L st M = zcont ph d 127 (zstep ph (zEm ph d) 2 27 0 [3] L st M) := zEv_step rfl
theorem e127_27 (ph : Bool) (d : Nat) (L st : List zV) (M : zM) : zEv ph d 127 27 L st M = zcont ph d 127 (zstep ph (zEm ph d) 70 30 128 [4, 0, 26] L st M) := zEv_step rfl
theorem e127_30 (ph : Bool) (d : Nat) (L st : List zV) (M : zM) : zEv ph d 127 30 L st M = zcont ph d 127 (zstep ph (zEm ph d) 0 31 0 [0] L st M) := zEv_step rfl
theorem e127_31 (ph : Bool) (d : Nat) (L st : List zV) (M : zM) : zEv ph d 127 31 L st M = zcont ph d 127 (zstep ph (zEm ph d) 80 32 0 [] L st M) := zEv_step rfl
theorem s_buyIrons (d : Nat) (a x0 l x1 h y n y2 : Int) (M : zM) (ha : 0 ≤ a) (sep : l + 7 ≤ a ∨ a + 9 ≤ l) (h0 : 0 ≤ h) (h1 : h < 10) : zEm true (d + 1) 124 [(26, a, x0), (28, l, x1), (0, h, y), (0, n, y2)] M = some ((0, sWhyBuy (zvS M a) (zvG M l) h n, 0), if sWhyBuy (zvS M a) (zvG M l) h n = 0 then zput M a (tBuy (zvS M a) (zvG M l) h n) else M) := by
  have e : zput M a (tBuy (zvS M a) (zvG M l) h n) = zup (zup M (a + 2) h (z32 (M (a + 2) h - z32 (n * M l 10)))) (a + 1) h (z32 (M (a + 1) h + n)) := by
    rw [zup_put (M := M) (i := 2) ha (by unfold sdom; omega), zput_up ha (by unfold sdom; omega)]
    unfold tBuy
    rw [zvS_2 h0 h1, zvS_1 h0 h1, zvG_0 (by omega) (by omega)]
  rw [e]
  unfold sWhyBuy
  rw [zvS_2 h0 h1, zvS_1 h0 h1, zvG_0 (by omega) (by omega)]
  by_cases c1 : M (a + 2) h < z32 (n * M l 10)
  · simp (disch := first | assumption | exact zrm0 | exact zrm1 _ | exact zrm2 _ _ | exact zrm3 _ _ _ | exact zrm4 _ _ _ _ | omega) only [m124, ↓k_dp, ↓k_dn, k_dp, k_dn, k_dT, k_dF, k_ip, k_in, if_true, if_false, ne_eq, not_true_eq_false, not_false_eq_true, Int.reduceAdd, zup_a, zup_e, zup_j, z32_id, k_al0, k_gR, k_il2, k_ild, k_ildS, k_ildW, k_il3, k_al1, k_gI, k_imul, k_icge, k_ic, k_ri, k_iadd, k_icle, k_dup2, k_isub, k_ist, e124_0, e124_1, e124_4, e124_5, e124_6, e124_7, e124_8, e124_11, e124_12, e124_15, e124_16, e124_17, e124_18, e124_21, e124_22, e124_23, e124_24, e124_25, e124_27, e124_30, e124_31, e124_32, e124_33, e124_36, e124_37, e124_38, e124_39, e124_40, e124_41, e124_44, e124_45, e124_46, e124_47, e124_48, e124_51, e124_52, e124_53, e124_54, e124_55, e124_56, e124_57, e124_58, if_pos c1]
  · by_cases c2 : 20 < z32 (M (a + 1) h + n)
    · simp (disch := first | assumption | exact zrm0 | exact zrm1 _ | exact zrm2 _ _ | exact zrm3 _ _ _ | exact zrm4 _ _ _ _ | omega) only [m124, ↓k_dp, ↓k_dn, k_dp, k_dn, k_dT, k_dF, k_ip, k_in, if_true, if_false, ne_eq, not_true_eq_false, not_false_eq_true, Int.reduceAdd, zup_a, zup_e, zup_j, z32_id, k_al0, k_gR, k_il2, k_ild, k_ildS, k_ildW, k_il3, k_al1, k_gI, k_imul, k_icge, k_ic, k_ri, k_iadd, k_icle, k_dup2, k_isub, k_ist, e124_0, e124_1, e124_4, e124_5, e124_6, e124_7, e124_8, e124_11, e124_12, e124_15, e124_16, e124_17, e124_18, e124_21, e124_22, e124_23, e124_24, e124_25, e124_27, e124_30, e124_31, e124_32, e124_33, e124_36, e124_37, e124_38, e124_39, e124_40, e124_41, e124_44, e124_45, e124_46, e124_47, e124_48, e124_51, e124_52, e124_53, e124_54, e124_55, e124_56, e124_57, e124_58, if_neg c1, if_pos c2]
    · simp (disch := first | assumption | exact zrm0 | exact zrm1 _ | exact zrm2 _ _ | exact zrm3 _ _ _ | exact zrm4 _ _ _ _ | omega) only [m124, ↓k_dp, ↓k_dn, k_dp, k_dn, k_dT, k_dF, k_ip, k_in, if_true, if_false, ne_eq, not_true_eq_false, not_false_eq_true, Int.reduceAdd, zup_a, zup_e, zup_j, z32_id, k_al0, k_gR, k_il2, k_ild, k_ildS, k_ildW, k_il3, k_al1, k_gI, k_imul, k_icge, k_ic, k_ri, k_iadd, k_icle, k_dup2, k_isub, k_ist, e124_0, e124_1, e124_4, e124_5, e124_6, e124_7, e124_8, e124_11, e124_12, e124_15, e124_16, e124_17, e124_18, e124_21, e124_22, e124_23, e124_24, e124_25, e124_27, e124_30, e124_31, e124_32, e124_33, e124_36, e124_37, e124_38, e124_39, e124_40, e124_41, e124_44, e124_45, e124_46, e124_47, e124_48, e124_51, e124_52, e124_53, e124_54, e124_55, e124_56, e124_57, e124_58, if_neg c1, if_neg c2]
theorem s_goOnStrike (d : Nat) (a x0 h y : Int) (M : zM) (ha : 0 ≤ a) : zEm true (d + 2) 125 [(26, a, x0), (0, h, y)] M = some ((0, if zbit (zvS M a 0 8) h ≠ 0 then 1 else 0, 0), if zbit (zvS M a 0 8) h ≠ 0 then M else zput M a (zup (zvS M a) 0 8 (zor (zvS M a 0 8) (zshl 1 h)))) := by
  rw [← zup_put0 ha (by omega) (by omega), zvS_0 (by omega) (by omega)]
  by_cases c1 : zbit (M a 8) h = 0
  · simp (disch := first | assumption | exact zrm0 | exact zrm1 _ | exact zrm2 _ _ | exact zrm3 _ _ _ | exact zrm4 _ _ _ _ | omega) only [m125, ↓k_dp, ↓k_dn, k_dp, k_dn, k_dT, k_dF, k_ip, k_in, if_true, if_false, ne_eq, not_true_eq_false, not_false_eq_true, Int.reduceAdd, zup_a, zup_e, zup_j, z32_id, k_al0, k_il1, k_v2r, k_ifeq, k_ic, k_ri, k_dup, k_gI, k_ishl, k_ior, k_pI, zb0_some, zb1_some, e125_0, e125_1, e125_2, e125_5, e125_8, e125_9, e125_10, e125_11, e125_12, e125_15, e125_16, e125_17, e125_18, e125_19, e125_22, e125_23, s_isSilent, c1, ne_eq, not_true]
  · simp (disch := first | assumption | exact zrm0 | exact zrm1 _ | exact zrm2 _ _ | exact zrm3 _ _ _ | exact zrm4 _ _ _ _ | omega) only [m125, ↓k_dp, ↓k_dn, k_dp, k_dn, k_dT, k_dF, k_ip, k_in, if_true, if_false, ne_eq, not_true_eq_false, not_false_eq_true, Int.reduceAdd, zup_a, zup_e, zup_j, z32_id, k_al0, k_il1, k_v2r, k_ifeq, k_ic, k_ri, k_dup, k_gI, k_ishl, k_ior, k_pI, zb0_some, zb1_some, e125_0, e125_1, e125_2, e125_5, e125_8, e125_9, e125_10, e125_11, e125_12, e125_15, e125_16, e125_17, e125_18, e125_19, e125_22, e125_23, s_isSilent, c1, ne_eq, not_false_iff]
theorem s_goToWork (d : Nat) (a x0 h y : Int) (M : zM) (ha : 0 ≤ a) : zEm true (d + 2) 126 [(26, a, x0), (0, h, y)] M = some ((0, if zbit (zvS M a 0 8) h ≠ 0 then 0 else 1, 0), if zbit (zvS M a 0 8) h ≠ 0 then zput M a (zup (zvS M a) 0 8 (zand (zvS M a 0 8) (zxor (zshl 1 h) (-1)))) else M) := by
  rw [← zup_put0 ha (by omega) (by omega), zvS_0 (by omega) (by omega)]
  by_cases c1 : zbit (M a 8) h = 0
  · simp (disch := first | assumption | exact zrm0 | exact zrm1 _ | exact zrm2 _ _ | exact zrm3 _ _ _ | exact zrm4 _ _ _ _ | omega) only [m126, ↓k_dp, ↓k_dn, k_dp, k_dn, k_dT, k_dF, k_ip, k_in, if_true, if_false, ne_eq, not_true_eq_false, not_false_eq_true, Int.reduceAdd, zup_a, zup_e, zup_j, z32_id, k_al0, k_il1, k_v2r, k_ifne, k_ic, k_ri, k_dup, k_gI, k_ishl, k_ixor, k_iand, k_pI, zb0_some, zb1_some, e126_0, e126_1, e126_2, e126_5, e126_8, e126_9, e126_10, e126_11, e126_12, e126_15, e126_16, e126_17, e126_18, e126_19, e126_20, e126_21, e126_24, e126_25, s_isSilent, c1, ne_eq, not_true]
  · simp (disch := first | assumption | exact zrm0 | exact zrm1 _ | exact zrm2 _ _ | exact zrm3 _ _ _ | exact zrm4 _ _ _ _ | omega) only [m126, ↓k_dp, ↓k_dn, k_dp, k_dn, k_dT, k_dF, k_ip, k_in, if_true, if_false, ne_eq, not_true_eq_false, not_false_eq_true, Int.reduceAdd, zup_a, zup_e, zup_j, z32_id, k_al0, k_il1, k_v2r, k_ifne, k_ic, k_ri, k_dup, k_gI, k_ishl, k_ixor, k_iand, k_pI, zb0_some, zb1_some, e126_0, e126_1, e126_2, e126_5, e126_8, e126_9, e126_10, e126_11, e126_12, e126_15, e126_16, e126_17, e126_18, e126_19, e126_20, e126_21, e126_24, e126_25, s_isSilent, c1, ne_eq, not_false_iff]
theorem s_laySand (d : Nat) (a x0 w y n y2 : Int) (M : zM) (ha : 0 ≤ a) (w0 : 0 ≤ w) (w1 : w < 2) : zEm true (d + 1) 131 [(26, a, x0), (0, w, y), (0, n, y2)] M = some ((0, if zvS M a 8 w = n then 1 else 0, 0), if zvS M a 8 w = n then M else zput M a (zup (zvS M a) 8 w n)) := by
  rw [← zup_put ha (by unfold sdom; omega), zvS_8 w0 w1]
  by_cases c1 : M (a + 8) w = n
  · simp (disch := first | assumption | exact zrm0 | exact zrm1 _ | exact zrm2 _ _ | exact zrm3 _ _ _ | exact zrm4 _ _ _ _ | omega) only [m131, ↓k_dp, ↓k_dn, k_dp, k_dn, k_dT, k_dF, k_ip, k_in, if_true, if_false, ne_eq, not_true_eq_false, not_false_eq_true, Int.reduceAdd, zup_a, zup_e, zup_j, z32_id, k_al0, k_gR, k_il1, k_ild, k_ildS, k_ildW, k_il2, k_icne, k_ic, k_ri, k_ist, e131_0, e131_1, e131_4, e131_5, e131_6, e131_7, e131_10, e131_11, e131_12, e131_13, e131_16, e131_17, e131_18, e131_19, e131_20]
  · simp (disch := first | assumption | exact zrm0 | exact zrm1 _ | exact zrm2 _ _ | exact zrm3 _ _ _ | exact zrm4 _ _ _ _ | omega) only [m131, ↓k_dp, ↓k_dn, k_dp, k_dn, k_dT, k_dF, k_ip, k_in, if_true, if_false, ne_eq, not_true_eq_false, not_false_eq_true, Int.reduceAdd, zup_a, zup_e, zup_j, z32_id, k_al0, k_gR, k_il1, k_ild, k_ildS, k_ildW, k_il2, k_icne, k_ic, k_ri, k_ist, e131_0, e131_1, e131_4, e131_5, e131_6, e131_7, e131_10, e131_11, e131_12, e131_13, e131_16, e131_17, e131_18, e131_19, e131_20]
theorem s_turnWeather (d : Nat) (a x0 k y : Int) (M : zM) (ha : 0 ≤ a) : zEm true (d + 1) 132 [(26, a, x0), (0, k, y)] M = some ((0, if zvS M a 0 9 = k then 1 else 0, 0), if zvS M a 0 9 = k then M else zput M a (zup (zvS M a) 0 9 k)) := by
  rw [← zup_put0 ha (by omega) (by omega), zvS_0 (by omega) (by omega)]
  by_cases c1 : M a 9 = k
  · simp (disch := first | assumption | exact zrm0 | exact zrm1 _ | exact zrm2 _ _ | exact zrm3 _ _ _ | exact zrm4 _ _ _ _ | omega) only [m132, ↓k_dp, ↓k_dn, k_dp, k_dn, k_dT, k_dF, k_ip, k_in, if_true, if_false, ne_eq, not_true_eq_false, not_false_eq_true, Int.reduceAdd, zup_a, zup_e, zup_j, z32_id, k_al0, k_gI, k_il1, k_icne, k_ic, k_ri, k_pI, e132_0, e132_1, e132_4, e132_5, e132_8, e132_9, e132_10, e132_11, e132_12, e132_15, e132_16]
  · simp (disch := first | assumption | exact zrm0 | exact zrm1 _ | exact zrm2 _ _ | exact zrm3 _ _ _ | exact zrm4 _ _ _ _ | omega) only [m132, ↓k_dp, ↓k_dn, k_dp, k_dn, k_dT, k_dF, k_ip, k_in, if_true, if_false, ne_eq, not_true_eq_false, not_false_eq_true, Int.reduceAdd, zup_a, zup_e, zup_j, z32_id, k_al0, k_gI, k_il1, k_icne, k_ic, k_ri, k_pI, e132_0, e132_1, e132_4, e132_5, e132_8, e132_9, e132_10, e132_11, e132_12, e132_15, e132_16]
theorem s_wantsLeft (d : Nat) (a x0 h y q y2 : Int) (M : zM) (q0 : 0 ≤ q) (q1 : q < 5) : zEm true (d + 1) 115 [(26, a, x0), (0, h, y), (0, q, y2)] M = some ((0, if zbit (zvS M a 3 q) h ≠ 0 then 1 else 0, 0), M) := by
  rw [zvS_3 q0 q1]
  unfold zbit
  by_cases hc : zand (zshr (M (a + 3) q) h) 1 = 0
  · simp (disch := first | assumption | exact zrm0 | exact zrm1 _ | exact zrm2 _ _ | exact zrm3 _ _ _ | exact zrm4 _ _ _ _ | omega) only [m115, ↓k_dp, ↓k_dn, k_dp, k_dn, k_dT, k_dF, k_ip, k_in, if_true, if_false, ne_eq, not_true_eq_false, not_false_eq_true, Int.reduceAdd, zup_a, zup_e, zup_j, z32_id, k_al0, k_gR, k_il2, k_ild, k_ildS, k_ildW, k_il1, k_ishr, k_ic, k_iand, k_ifeq, k_goto, k_rz, e115_0, e115_1, e115_4, e115_5, e115_6, e115_7, e115_8, e115_9, e115_10, e115_13, e115_14, e115_17, e115_18, hc, ne_eq, not_true]
  · simp (disch := first | assumption | exact zrm0 | exact zrm1 _ | exact zrm2 _ _ | exact zrm3 _ _ _ | exact zrm4 _ _ _ _ | omega) only [m115, ↓k_dp, ↓k_dn, k_dp, k_dn, k_dT, k_dF, k_ip, k_in, if_true, if_false, ne_eq, not_true_eq_false, not_false_eq_true, Int.reduceAdd, zup_a, zup_e, zup_j, z32_id, k_al0, k_gR, k_il2, k_ild, k_ildS, k_ildW, k_il1, k_ishr, k_ic, k_iand, k_ifeq, k_goto, k_rz, e115_0, e115_1, e115_4, e115_5, e115_6, e115_7, e115_8, e115_9, e115_10, e115_13, e115_14, e115_17, e115_18, hc, ne_eq, not_false_iff]
theorem s_wantsRight (d : Nat) (a x0 h y q y2 : Int) (M : zM) (q0 : 0 ≤ q) (q1 : q < 5) : zEm true (d + 1) 116 [(26, a, x0), (0, h, y), (0, q, y2)] M = some ((0, if zbit (zvS M a 4 q) h ≠ 0 then 1 else 0, 0), M) := by
  rw [zvS_4 q0 q1]
  unfold zbit
  by_cases hc : zand (zshr (M (a + 4) q) h) 1 = 0
  · simp (disch := first | assumption | exact zrm0 | exact zrm1 _ | exact zrm2 _ _ | exact zrm3 _ _ _ | exact zrm4 _ _ _ _ | omega) only [m116, ↓k_dp, ↓k_dn, k_dp, k_dn, k_dT, k_dF, k_ip, k_in, if_true, if_false, ne_eq, not_true_eq_false, not_false_eq_true, Int.reduceAdd, zup_a, zup_e, zup_j, z32_id, k_al0, k_gR, k_il2, k_ild, k_ildS, k_ildW, k_il1, k_ishr, k_ic, k_iand, k_ifeq, k_goto, k_rz, e116_0, e116_1, e116_4, e116_5, e116_6, e116_7, e116_8, e116_9, e116_10, e116_13, e116_14, e116_17, e116_18, hc, ne_eq, not_true]
  · simp (disch := first | assumption | exact zrm0 | exact zrm1 _ | exact zrm2 _ _ | exact zrm3 _ _ _ | exact zrm4 _ _ _ _ | omega) only [m116, ↓k_dp, ↓k_dn, k_dp, k_dn, k_dT, k_dF, k_ip, k_in, if_true, if_false, ne_eq, not_true_eq_false, not_false_eq_true, Int.reduceAdd, zup_a, zup_e, zup_j, z32_id, k_al0, k_gR, k_il2, k_ild, k_ildS, k_ildW, k_il1, k_ishr, k_ic, k_iand, k_ifeq, k_goto, k_rz, e116_0, e116_1, e116_4, e116_5, e116_6, e116_7, e116_8, e116_9, e116_10, e116_13, e116_14, e116_17, e116_18, hc, ne_eq, not_false_iff]
theorem s_wayWanted (d : Nat) (a x0 h y q y2 : Int) (M : zM) (q0 : 0 ≤ q) (q1 : q < 5) : zEm true (d + 2) 117 [(26, a, x0), (0, h, y), (0, q, y2)] M = some ((0, sWant (zvS M a) h q, 0), M) := by
  unfold sWant
  by_cases c1 : zbit (zvS M a 3 q) h = 0
  · by_cases c2 : zbit (zvS M a 4 q) h = 0
    · simp (disch := first | assumption | exact zrm0 | exact zrm1 _ | exact zrm2 _ _ | exact zrm3 _ _ _ | exact zrm4 _ _ _ _ | omega) only [m117, ↓k_dp, ↓k_dn, k_dp, k_dn, k_dT, k_dF, k_ip, k_in, if_true, if_false, ne_eq, not_true_eq_false, not_false_eq_true, Int.reduceAdd, zup_a, zup_e, zup_j, z32_id, k_al0, k_il1, k_il2, k_v3r, k_ifeq, k_ic, k_ri, k_goto, zb0_some, zb1_some, e117_0, e117_1, e117_2, e117_3, e117_6, e117_9, e117_10, e117_11, e117_12, e117_13, e117_14, e117_17, e117_20, e117_21, e117_24, e117_26, s_wantsLeft, s_wantsRight, c1, c2, ne_eq, not_true]
    · simp (disch := first | assumption | exact zrm0 | exact zrm1 _ | exact zrm2 _ _ | exact zrm3 _ _ _ | exact zrm4 _ _ _ _ | omega) only [m117, ↓k_dp, ↓k_dn, k_dp, k_dn, k_dT, k_dF, k_ip, k_in, if_true, if_false, ne_eq, not_true_eq_false, not_false_eq_true, Int.reduceAdd, zup_a, zup_e, zup_j, z32_id, k_al0, k_il1, k_il2, k_v3r, k_ifeq, k_ic, k_ri, k_goto, zb0_some, zb1_some, e117_0, e117_1, e117_2, e117_3, e117_6, e117_9, e117_10, e117_11, e117_12, e117_13, e117_14, e117_17, e117_20, e117_21, e117_24, e117_26, s_wantsLeft, s_wantsRight, c1, c2, ne_eq, not_true, not_false_iff]
  · simp (disch := first | assumption | exact zrm0 | exact zrm1 _ | exact zrm2 _ _ | exact zrm3 _ _ _ | exact zrm4 _ _ _ _ | omega) only [m117, ↓k_dp, ↓k_dn, k_dp, k_dn, k_dT, k_dF, k_ip, k_in, if_true, if_false, ne_eq, not_true_eq_false, not_false_eq_true, Int.reduceAdd, zup_a, zup_e, zup_j, z32_id, k_al0, k_il1, k_il2, k_v3r, k_ifeq, k_ic, k_ri, k_goto, zb0_some, zb1_some, e117_0, e117_1, e117_2, e117_3, e117_6, e117_9, e117_10, e117_11, e117_12, e117_13, e117_14, e117_17, e117_20, e117_21, e117_24, e117_26, s_wantsLeft, s_wantsRight, c1, ne_eq, not_false_iff]
theorem s_turnHand (d : Nat) (a x0 h y q y2 w y3 : Int) (M : zM) (ha : 0 ≤ a) (q0 : 0 ≤ q) (q1 : q < 5) (w0 : 0 ≤ w) (w1 : w < 2) : zEm true (d + 1) 128 [(26, a, x0), (0, h, y), (0, q, y2), (0, w, y3)] M = some ((98, 0, 0), zput M a (tSway (zvS M a) h q w)) := by
  have e : zput M a (tSway (zvS M a) h q w) = if w = 0 then zup (zup M (a + 3) q (zor (M (a + 3) q) (zshl 1 h))) (a + 4) q (zand (M (a + 4) q) (zxor (zshl 1 h) (-1))) else zup (zup M (a + 3) q (zand (M (a + 3) q) (zxor (zshl 1 h) (-1)))) (a + 4) q (zor (M (a + 4) q) (zshl 1 h)) := by
    rw [zup_put (M := M) (v := zor (M (a + 3) q) (zshl 1 h)) ha (by unfold sdom; omega), zup_put (M := M) (v := zand (M (a + 3) q) (zxor (zshl 1 h) (-1))) ha (by unfold sdom; omega), zput_up ha (by unfold sdom; omega), zput_up ha (by unfold sdom; omega)]
    unfold tSway
    rw [zvS_3 q0 q1, zvS_4 q0 q1]
    split <;> rfl
  rw [e]
  by_cases c : w = 0
  · subst c
    simp (disch := first | assumption | exact zrm0 | exact zrm1 _ | exact zrm2 _ _ | exact zrm3 _ _ _ | exact zrm4 _ _ _ _ | omega) only [m128, ↓k_dp, ↓k_dn, k_dp, k_dn, k_dT, k_dF, k_ip, k_in, if_true, if_false, ne_eq, not_true_eq_false, not_false_eq_true, Int.reduceAdd, zup_a, zup_e, zup_j, z32_id, k_ic, k_il1, k_ishl, k_is4, k_al0, k_gR, k_il2, k_il3, k_ifne, k_ild, k_ildS, k_ildW, k_il4, k_ior, k_goto, k_ixor, k_iand, k_ist, k_icne, k_rv, e128_0, e128_1, e128_2, e128_3, e128_5, e128_6, e128_9, e128_10, e128_11, e128_14, e128_15, e128_18, e128_19, e128_20, e128_22, e128_23, e128_26, e128_27, e128_30, e128_31, e128_32, e128_34, e128_35, e128_36, e128_37, e128_38, e128_39, e128_42, e128_43, e128_44, e128_45, e128_48, e128_49, e128_52, e128_53, e128_54, e128_56, e128_57, e128_60, e128_61, e128_64, e128_65, e128_66, e128_68, e128_69, e128_70, e128_71, e128_72]
  · have c2 : w = 1 := by omega
    subst c2
    simp (disch := first | assumption | exact zrm0 | exact zrm1 _ | exact zrm2 _ _ | exact zrm3 _ _ _ | exact zrm4 _ _ _ _ | omega) only [m128, ↓k_dp, ↓k_dn, k_dp, k_dn, k_dT, k_dF, k_ip, k_in, if_true, if_false, ne_eq, not_true_eq_false, not_false_eq_true, Int.reduceAdd, zup_a, zup_e, zup_j, z32_id, k_ic, k_il1, k_ishl, k_is4, k_al0, k_gR, k_il2, k_il3, k_ifne, k_ild, k_ildS, k_ildW, k_il4, k_ior, k_goto, k_ixor, k_iand, k_ist, k_icne, k_rv, e128_0, e128_1, e128_2, e128_3, e128_5, e128_6, e128_9, e128_10, e128_11, e128_14, e128_15, e128_18, e128_19, e128_20, e128_22, e128_23, e128_26, e128_27, e128_30, e128_31, e128_32, e128_34, e128_35, e128_36, e128_37, e128_38, e128_39, e128_42, e128_43, e128_44, e128_45, e128_48, e128_49, e128_52, e128_53, e128_54, e128_56, e128_57, e128_60, e128_61, e128_64, e128_65, e128_66, e128_68, e128_69, e128_70, e128_71, e128_72]
theorem s_swayHand (d : Nat) (a x0 h y q y2 w y3 : Int) (M : zM) (ha : 0 ≤ a) (q0 : 0 ≤ q) (q1 : q < 5) (w0 : 0 ≤ w) (w1 : w < 2) : zEm true (d + 3) 127 [(26, a, x0), (0, h, y), (0, q, y2), (0, w, y3)] M = some ((0, sWhySway (zvS M a) h q w, 0), if sWhySway (zvS M a) h q w = 0 then zput M a (tSway (zvS M a) h q w) else M) := by
  unfold sWhySway
  rw [zvS_5 q0 q1]
  by_cases c1 : M (a + 5) q = 0
  · by_cases c2 : sWant (zvS M a) h q = w
    · simp (disch := first | assumption | exact zrm0 | exact zrm1 _ | exact zrm2 _ _ | exact zrm3 _ _ _ | exact zrm4 _ _ _ _ | omega) only [m127, ↓k_dp, ↓k_dn, k_dp, k_dn, k_dT, k_dF, k_ip, k_in, if_true, if_false, ne_eq, not_true_eq_false, not_false_eq_true, Int.reduceAdd, zup_a, zup_e, zup_j, z32_id, k_al0, k_gR, k_il2, k_ild, k_ildS, k_ildW, k_ifeq, k_ic, k_ri, k_il1, k_v3r, k_il3, k_icne, k_v4, zb0_some, zb1_some, e127_0, e127_1, e127_4, e127_5, e127_6, e127_9, e127_10, e127_11, e127_12, e127_13, e127_14, e127_17, e127_18, e127_21, e127_22, e127_23, e127_24, e127_25, e127_26, e127_27, e127_30, e127_31, s_wayWanted, if_pos c2, c1, ne_eq, not_true]
    · simp (disch := first | assumption | exact zrm0 | exact zrm1 _ | exact zrm2 _ _ | exact zrm3 _ _ _ | exact zrm4 _ _ _ _ | omega) only [m127, ↓k_dp, ↓k_dn, k_dp, k_dn, k_dT, k_dF, k_ip, k_in, if_true, if_false, ne_eq, not_true_eq_false, not_false_eq_true, Int.reduceAdd, zup_a, zup_e, zup_j, z32_id, k_al0, k_gR, k_il2, k_ild, k_ildS, k_ildW, k_ifeq, k_ic, k_ri, k_il1, k_v3r, k_il3, k_icne, k_v4, zb0_some, zb1_some, e127_0, e127_1, e127_4, e127_5, e127_6, e127_9, e127_10, e127_11, e127_12, e127_13, e127_14, e127_17, e127_18, e127_21, e127_22, e127_23, e127_24, e127_25, e127_26, e127_27, e127_30, e127_31, s_wayWanted, s_turnHand, if_neg c2, c1, ne_eq, not_true]
  · simp (disch := first | assumption | exact zrm0 | exact zrm1 _ | exact zrm2 _ _ | exact zrm3 _ _ _ | exact zrm4 _ _ _ _ | omega) only [m127, ↓k_dp, ↓k_dn, k_dp, k_dn, k_dT, k_dF, k_ip, k_in, if_true, if_false, ne_eq, not_true_eq_false, not_false_eq_true, Int.reduceAdd, zup_a, zup_e, zup_j, z32_id, k_al0, k_gR, k_il2, k_ild, k_ildS, k_ildW, k_ifeq, k_ic, k_ri, k_il1, k_v3r, k_il3, k_icne, k_v4, zb0_some, zb1_some, e127_0, e127_1, e127_4, e127_5, e127_6, e127_9, e127_10, e127_11, e127_12, e127_13, e127_14, e127_17, e127_18, e127_21, e127_22, e127_23, e127_24, e127_25, e127_26, e127_27, e127_30, e127_31, s_wayWanted, s_turnHand, c1, ne_eq, not_false_iff]
