theorem zup_e (M : zM) (a j v : Int) : zup M a j v a j = v := by simp [zup]
theorem zup_a {M : zM} {a j v x y : Int} (h : x ≠ a) : zup M a j v x y = M x y := by simp [zup, h]
theorem zup_j {M : zM} {a j v x y : Int} (h : y ≠ j) : zup M a j v x y = M x y := by simp [zup, h]
def zbit (s k : Int) : Int := zand (zshr s k) 1
theorem m114 (d : Nat) (a x0 p0 y0 : Int) (M : zM) : zEm true (d + 1) 114 [(26, a, x0), (0, p0, y0)] M = zEv true d 114 0 [(26, a, x0), (0, p0, y0)] [] M := rfl
theorem e114_0 (d : Nat) (L st : List zV) (M : zM) : zEv true d 114 0 L st M = zcont true d 114 (zstep true (zEm true d) 4 1 0 [0] L st M) := zEv_step rfl
theorem e114_1 (d : Nat) (L st : List zV) (M : zM) : zEv true d 114 1 L st M = zcont true d 114 (zstep true (zEm true d) 60 4 0 [26, 8] L st M) := zEv_step rfl
theorem e114_4 (d : Nat) (L st : List zV) (M : zM) : zEv true d 114 4 L st M = zcont true d 114 (zstep true (zEm true d) 2 5 0 [1] L st M) := zEv_step rfl
theorem e114_5 (d : Nat) (L st : List zV) (M : zM) : zEv true d 114 5 L st M = zcont true d 114 (zstep true (zEm true d) 20 6 0 [] L st M) := zEv_step rfl
theorem e114_6 (d : Nat) (L st : List zV) (M : zM) : zEv true d 114 6 L st M = zcont true d 114 (zstep true (zEm true d) 0 7 0 [1] L st M) := zEv_step rfl
theorem e114_7 (d : Nat) (L st : List zV) (M : zM) : zEv true d 114 7 L st M = zcont true d 114 (zstep true (zEm true d) 16 8 0 [] L st M) := zEv_step rfl
theorem e114_8 (d : Nat) (L st : List zV) (M : zM) : zEv true d 114 8 L st M = zcont true d 114 (zstep true (zEm true d) 40 11 15 [] L st M) := zEv_step rfl
theorem e114_11 (d : Nat) (L st : List zV) (M : zM) : zEv true d 114 11 L st M = zcont true d 114 (zstep true (zEm true d) 0 12 0 [1] L st M) := zEv_step rfl
theorem e114_12 (d : Nat) (L st : List zV) (M : zM) : zEv true d 114 12 L st M = zcont true d 114 (zstep true (zEm true d) 52 15 16 [] L st M) := zEv_step rfl
theorem e114_15 (d : Nat) (L st : List zV) (M : zM) : zEv true d 114 15 L st M = zcont true d 114 (zstep true (zEm true d) 0 16 0 [0] L st M) := zEv_step rfl
theorem e114_16 (d : Nat) (L st : List zV) (M : zM) : zEv true d 114 16 L st M = zcont true d 114 (zstep true (zEm true d) 80 17 0 [0, 1] L st M) := zEv_step rfl
theorem m156 (d : Nat) (a x0 p0 y0 : Int) (M : zM) : zEm true (d + 1) 156 [(28, a, x0), (0, p0, y0)] M = zEv true d 156 0 [(28, a, x0), (0, p0, y0)] [] M := rfl
theorem e156_0 (d : Nat) (L st : List zV) (M : zM) : zEv true d 156 0 L st M = zcont true d 156 (zstep true (zEm true d) 4 1 0 [0] L st M) := zEv_step rfl
theorem e156_1 (d : Nat) (L st : List zV) (M : zM) : zEv true d 156 1 L st M = zcont true d 156 (zstep true (zEm true d) 60 4 0 [28, 9] L st M) := zEv_step rfl
theorem e156_4 (d : Nat) (L st : List zV) (M : zM) : zEv true d 156 4 L st M = zcont true d 156 (zstep true (zEm true d) 2 5 0 [1] L st M) := zEv_step rfl
theorem e156_5 (d : Nat) (L st : List zV) (M : zM) : zEv true d 156 5 L st M = zcont true d 156 (zstep true (zEm true d) 20 6 0 [] L st M) := zEv_step rfl
theorem e156_6 (d : Nat) (L st : List zV) (M : zM) : zEv true d 156 6 L st M = zcont true d 156 (zstep true (zEm true d) 0 7 0 [1] L st M) := zEv_step rfl
theorem e156_7 (d : Nat) (L st : List zV) (M : zM) : zEv true d 156 7 L st M = zcont true d 156 (zstep true (zEm true d) 16 8 0 [] L st M) := zEv_step rfl
theorem e156_8 (d : Nat) (L st : List zV) (M : zM) : zEv true d 156 8 L st M = zcont true d 156 (zstep true (zEm true d) 40 11 15 [] L st M) := zEv_step rfl
theorem e156_11 (d : Nat) (L st : List zV) (M : zM) : zEv true d 156 11 L st M = zcont true d 156 (zstep true (zEm true d) 0 12 0 [1] L st M) := zEv_step rfl
theorem e156_12 (d : Nat) (L st : List zV) (M : zM) : zEv true d 156 12 L st M = zcont true d 156 (zstep true (zEm true d) 52 15 16 [] L st M) := zEv_step rfl
theorem e156_15 (d : Nat) (L st : List zV) (M : zM) : zEv true d 156 15 L st M = zcont true d 156 (zstep true (zEm true d) 0 16 0 [0] L st M) := zEv_step rfl
theorem e156_16 (d : Nat) (L st : List zV) (M : zM) : zEv true d 156 16 L st M = zcont true d 156 (zstep true (zEm true d) 80 17 0 [0, 1] L st M) := zEv_step rfl
theorem m118 (d : Nat) (a x0 p0 y0 p1 y1 p2 y2 p3 y3 : Int) (M : zM) : zEm true (d + 1) 118 [(26, a, x0), (28, p0, y0), (0, p1, y1), (0, p2, y2), (0, p3, y3)] M = zEv true d 118 0 [(26, a, x0), (28, p0, y0), (0, p1, y1), (0, p2, y2), (0, p3, y3), (3, 0, 0)] [] M := rfl
theorem e118_0 (d : Nat) (L st : List zV) (M : zM) : zEv true d 118 0 L st M = zcont true d 118 (zstep true (zEm true d) 4 1 0 [0] L st M) := zEv_step rfl
theorem e118_1 (d : Nat) (L st : List zV) (M : zM) : zEv true d 118 1 L st M = zcont true d 118 (zstep true (zEm true d) 2 2 0 [2] L st M) := zEv_step rfl
theorem e118_2 (d : Nat) (L st : List zV) (M : zM) : zEv true d 118 2 L st M = zcont true d 118 (zstep true (zEm true d) 70 5 114 [2, 1] L st M) := zEv_step rfl
theorem e118_5 (d : Nat) (L st : List zV) (M : zM) : zEv true d 118 5 L st M = zcont true d 118 (zstep true (zEm true d) 40 8 10 [] L st M) := zEv_step rfl
theorem e118_8 (d : Nat) (L st : List zV) (M : zM) : zEv true d 118 8 L st M = zcont true d 118 (zstep true (zEm true d) 0 9 0 [0] L st M) := zEv_step rfl
theorem e118_9 (d : Nat) (L st : List zV) (M : zM) : zEv true d 118 9 L st M = zcont true d 118 (zstep true (zEm true d) 80 10 0 [] L st M) := zEv_step rfl
theorem e118_10 (d : Nat) (L st : List zV) (M : zM) : zEv true d 118 10 L st M = zcont true d 118 (zstep true (zEm true d) 4 11 0 [0] L st M) := zEv_step rfl
theorem e118_11 (d : Nat) (L st : List zV) (M : zM) : zEv true d 118 11 L st M = zcont true d 118 (zstep true (zEm true d) 62 14 0 [26, 0, 1, 10, 10] L st M) := zEv_step rfl
theorem e118_14 (d : Nat) (L st : List zV) (M : zM) : zEv true d 118 14 L st M = zcont true d 118 (zstep true (zEm true d) 2 15 0 [2] L st M) := zEv_step rfl
theorem e118_15 (d : Nat) (L st : List zV) (M : zM) : zEv true d 118 15 L st M = zcont true d 118 (zstep true (zEm true d) 85 16 0 [] L st M) := zEv_step rfl
theorem e118_16 (d : Nat) (L st : List zV) (M : zM) : zEv true d 118 16 L st M = zcont true d 118 (zstep true (zEm true d) 2 18 0 [4] L st M) := zEv_step rfl
theorem e118_18 (d : Nat) (L st : List zV) (M : zM) : zEv true d 118 18 L st M = zcont true d 118 (zstep true (zEm true d) 10 19 0 [] L st M) := zEv_step rfl
theorem e118_19 (d : Nat) (L st : List zV) (M : zM) : zEv true d 118 19 L st M = zcont true d 118 (zstep true (zEm true d) 5 21 0 [5] L st M) := zEv_step rfl
theorem e118_21 (d : Nat) (L st : List zV) (M : zM) : zEv true d 118 21 L st M = zcont true d 118 (zstep true (zEm true d) 4 22 0 [1] L st M) := zEv_step rfl
theorem e118_22 (d : Nat) (L st : List zV) (M : zM) : zEv true d 118 22 L st M = zcont true d 118 (zstep true (zEm true d) 2 23 0 [2] L st M) := zEv_step rfl
theorem e118_23 (d : Nat) (L st : List zV) (M : zM) : zEv true d 118 23 L st M = zcont true d 118 (zstep true (zEm true d) 70 26 156 [2, 1] L st M) := zEv_step rfl
theorem e118_26 (d : Nat) (L st : List zV) (M : zM) : zEv true d 118 26 L st M = zcont true d 118 (zstep true (zEm true d) 40 29 35 [] L st M) := zEv_step rfl
theorem e118_29 (d : Nat) (L st : List zV) (M : zM) : zEv true d 118 29 L st M = zcont true d 118 (zstep true (zEm true d) 2 31 0 [5] L st M) := zEv_step rfl
theorem e118_31 (d : Nat) (L st : List zV) (M : zM) : zEv true d 118 31 L st M = zcont true d 118 (zstep true (zEm true d) 0 32 0 [2] L st M) := zEv_step rfl
theorem e118_32 (d : Nat) (L st : List zV) (M : zM) : zEv true d 118 32 L st M = zcont true d 118 (zstep true (zEm true d) 12 33 0 [] L st M) := zEv_step rfl
theorem e118_33 (d : Nat) (L st : List zV) (M : zM) : zEv true d 118 33 L st M = zcont true d 118 (zstep true (zEm true d) 5 35 0 [5] L st M) := zEv_step rfl
theorem e118_35 (d : Nat) (L st : List zV) (M : zM) : zEv true d 118 35 L st M = zcont true d 118 (zstep true (zEm true d) 4 36 0 [0] L st M) := zEv_step rfl
theorem e118_36 (d : Nat) (L st : List zV) (M : zM) : zEv true d 118 36 L st M = zcont true d 118 (zstep true (zEm true d) 60 39 0 [26, 9] L st M) := zEv_step rfl
theorem e118_39 (d : Nat) (L st : List zV) (M : zM) : zEv true d 118 39 L st M = zcont true d 118 (zstep true (zEm true d) 0 40 0 [1] L st M) := zEv_step rfl
theorem e118_40 (d : Nat) (L st : List zV) (M : zM) : zEv true d 118 40 L st M = zcont true d 118 (zstep true (zEm true d) 47 43 49 [] L st M) := zEv_step rfl
theorem e118_43 (d : Nat) (L st : List zV) (M : zM) : zEv true d 118 43 L st M = zcont true d 118 (zstep true (zEm true d) 2 45 0 [5] L st M) := zEv_step rfl
theorem e118_45 (d : Nat) (L st : List zV) (M : zM) : zEv true d 118 45 L st M = zcont true d 118 (zstep true (zEm true d) 0 46 0 [2] L st M) := zEv_step rfl
theorem e118_46 (d : Nat) (L st : List zV) (M : zM) : zEv true d 118 46 L st M = zcont true d 118 (zstep true (zEm true d) 13 47 0 [] L st M) := zEv_step rfl
theorem e118_47 (d : Nat) (L st : List zV) (M : zM) : zEv true d 118 47 L st M = zcont true d 118 (zstep true (zEm true d) 5 49 0 [5] L st M) := zEv_step rfl
theorem e118_49 (d : Nat) (L st : List zV) (M : zM) : zEv true d 118 49 L st M = zcont true d 118 (zstep true (zEm true d) 0 50 0 [0] L st M) := zEv_step rfl
theorem e118_50 (d : Nat) (L st : List zV) (M : zM) : zEv true d 118 50 L st M = zcont true d 118 (zstep true (zEm true d) 2 52 0 [5] L st M) := zEv_step rfl
theorem e118_52 (d : Nat) (L st : List zV) (M : zM) : zEv true d 118 52 L st M = zcont true d 118 (zstep true (zEm true d) 4 53 0 [0] L st M) := zEv_step rfl
theorem e118_53 (d : Nat) (L st : List zV) (M : zM) : zEv true d 118 53 L st M = zcont true d 118 (zstep true (zEm true d) 62 56 0 [26, 7, 8, 10, 2] L st M) := zEv_step rfl
theorem e118_56 (d : Nat) (L st : List zV) (M : zM) : zEv true d 118 56 L st M = zcont true d 118 (zstep true (zEm true d) 2 57 0 [3] L st M) := zEv_step rfl
theorem e118_57 (d : Nat) (L st : List zV) (M : zM) : zEv true d 118 57 L st M = zcont true d 118 (zstep true (zEm true d) 85 58 0 [] L st M) := zEv_step rfl
theorem e118_58 (d : Nat) (L st : List zV) (M : zM) : zEv true d 118 58 L st M = zcont true d 118 (zstep true (zEm true d) 11 59 0 [] L st M) := zEv_step rfl
theorem e118_59 (d : Nat) (L st : List zV) (M : zM) : zEv true d 118 59 L st M = zcont true d 118 (zstep true (zEm true d) 71 62 0 [] L st M) := zEv_step rfl
theorem e118_62 (d : Nat) (L st : List zV) (M : zM) : zEv true d 118 62 L st M = zcont true d 118 (zstep true (zEm true d) 80 63 0 [] L st M) := zEv_step rfl
theorem m119 (d : Nat) (a x0 p0 y0 p1 y1 p2 y2 : Int) (M : zM) : zEm true (d + 1) 119 [(26, a, x0), (28, p0, y0), (0, p1, y1), (0, p2, y2)] M = zEv true d 119 0 [(26, a, x0), (28, p0, y0), (0, p1, y1), (0, p2, y2), (3, 0, 0), (3, 0, 0)] [] M := rfl
theorem e119_0 (d : Nat) (L st : List zV) (M : zM) : zEv true d 119 0 L st M = zcont true d 119 (zstep true (zEm true d) 0 1 0 [0] L st M) := zEv_step rfl
theorem e119_1 (d : Nat) (L st : List zV) (M : zM) : zEv true d 119 1 L st M = zcont true d 119 (zstep true (zEm true d) 5 3 0 [4] L st M) := zEv_step rfl
theorem e119_3 (d : Nat) (L st : List zV) (M : zM) : zEv true d 119 3 L st M = zcont true d 119 (zstep true (zEm true d) 0 4 0 [0] L st M) := zEv_step rfl
theorem e119_4 (d : Nat) (L st : List zV) (M : zM) : zEv true d 119 4 L st M = zcont true d 119 (zstep true (zEm true d) 5 6 0 [5] L st M) := zEv_step rfl
theorem e119_6 (d : Nat) (L st : List zV) (M : zM) : zEv true d 119 6 L st M = zcont true d 119 (zstep true (zEm true d) 2 8 0 [5] L st M) := zEv_step rfl
theorem e119_8 (d : Nat) (L st : List zV) (M : zM) : zEv true d 119 8 L st M = zcont true d 119 (zstep true (zEm true d) 4 9 0 [1] L st M) := zEv_step rfl
theorem e119_9 (d : Nat) (L st : List zV) (M : zM) : zEv true d 119 9 L st M = zcont true d 119 (zstep true (zEm true d) 60 12 0 [28, 7] L st M) := zEv_step rfl
theorem e119_12 (d : Nat) (L st : List zV) (M : zM) : zEv true d 119 12 L st M = zcont true d 119 (zstep true (zEm true d) 49 15 44 [] L st M) := zEv_step rfl
theorem e119_15 (d : Nat) (L st : List zV) (M : zM) : zEv true d 119 15 L st M = zcont true d 119 (zstep true (zEm true d) 2 16 0 [2] L st M) := zEv_step rfl
theorem e119_16 (d : Nat) (L st : List zV) (M : zM) : zEv true d 119 16 L st M = zcont true d 119 (zstep true (zEm true d) 2 18 0 [5] L st M) := zEv_step rfl
theorem e119_18 (d : Nat) (L st : List zV) (M : zM) : zEv true d 119 18 L st M = zcont true d 119 (zstep true (zEm true d) 20 19 0 [] L st M) := zEv_step rfl
theorem e119_19 (d : Nat) (L st : List zV) (M : zM) : zEv true d 119 19 L st M = zcont true d 119 (zstep true (zEm true d) 0 20 0 [1] L st M) := zEv_step rfl
theorem e119_20 (d : Nat) (L st : List zV) (M : zM) : zEv true d 119 20 L st M = zcont true d 119 (zstep true (zEm true d) 16 21 0 [] L st M) := zEv_step rfl
theorem e119_21 (d : Nat) (L st : List zV) (M : zM) : zEv true d 119 21 L st M = zcont true d 119 (zstep true (zEm true d) 40 24 38 [] L st M) := zEv_step rfl
theorem e119_24 (d : Nat) (L st : List zV) (M : zM) : zEv true d 119 24 L st M = zcont true d 119 (zstep true (zEm true d) 2 26 0 [4] L st M) := zEv_step rfl
theorem e119_26 (d : Nat) (L st : List zV) (M : zM) : zEv true d 119 26 L st M = zcont true d 119 (zstep true (zEm true d) 4 27 0 [0] L st M) := zEv_step rfl
theorem e119_27 (d : Nat) (L st : List zV) (M : zM) : zEv true d 119 27 L st M = zcont true d 119 (zstep true (zEm true d) 4 28 0 [1] L st M) := zEv_step rfl
theorem e119_28 (d : Nat) (L st : List zV) (M : zM) : zEv true d 119 28 L st M = zcont true d 119 (zstep true (zEm true d) 2 30 0 [5] L st M) := zEv_step rfl
theorem e119_30 (d : Nat) (L st : List zV) (M : zM) : zEv true d 119 30 L st M = zcont true d 119 (zstep true (zEm true d) 2 31 0 [3] L st M) := zEv_step rfl
theorem e119_31 (d : Nat) (L st : List zV) (M : zM) : zEv true d 119 31 L st M = zcont true d 119 (zstep true (zEm true d) 0 32 0 [0] L st M) := zEv_step rfl
theorem e119_32 (d : Nat) (L st : List zV) (M : zM) : zEv true d 119 32 L st M = zcont true d 119 (zstep true (zEm true d) 70 35 118 [5, 1] L st M) := zEv_step rfl
theorem e119_35 (d : Nat) (L st : List zV) (M : zM) : zEv true d 119 35 L st M = zcont true d 119 (zstep true (zEm true d) 10 36 0 [] L st M) := zEv_step rfl
theorem e119_36 (d : Nat) (L st : List zV) (M : zM) : zEv true d 119 36 L st M = zcont true d 119 (zstep true (zEm true d) 5 38 0 [4] L st M) := zEv_step rfl
theorem e119_38 (d : Nat) (L st : List zV) (M : zM) : zEv true d 119 38 L st M = zcont true d 119 (zstep true (zEm true d) 8 41 0 [5, 1] L st M) := zEv_step rfl
theorem e119_41 (d : Nat) (L st : List zV) (M : zM) : zEv true d 119 41 L st M = zcont true d 119 (zstep true (zEm true d) 52 44 6 [] L st M) := zEv_step rfl
theorem e119_44 (d : Nat) (L st : List zV) (M : zM) : zEv true d 119 44 L st M = zcont true d 119 (zstep true (zEm true d) 2 46 0 [4] L st M) := zEv_step rfl
theorem e119_46 (d : Nat) (L st : List zV) (M : zM) : zEv true d 119 46 L st M = zcont true d 119 (zstep true (zEm true d) 45 49 61 [] L st M) := zEv_step rfl
theorem e119_49 (d : Nat) (L st : List zV) (M : zM) : zEv true d 119 49 L st M = zcont true d 119 (zstep true (zEm true d) 2 51 0 [4] L st M) := zEv_step rfl
theorem e119_51 (d : Nat) (L st : List zV) (M : zM) : zEv true d 119 51 L st M = zcont true d 119 (zstep true (zEm true d) 4 52 0 [1] L st M) := zEv_step rfl
theorem e119_52 (d : Nat) (L st : List zV) (M : zM) : zEv true d 119 52 L st M = zcont true d 119 (zstep true (zEm true d) 62 55 0 [28, 5, 6, 10, 2] L st M) := zEv_step rfl
theorem e119_55 (d : Nat) (L st : List zV) (M : zM) : zEv true d 119 55 L st M = zcont true d 119 (zstep true (zEm true d) 2 56 0 [3] L st M) := zEv_step rfl
theorem e119_56 (d : Nat) (L st : List zV) (M : zM) : zEv true d 119 56 L st M = zcont true d 119 (zstep true (zEm true d) 85 57 0 [] L st M) := zEv_step rfl
theorem e119_57 (d : Nat) (L st : List zV) (M : zM) : zEv true d 119 57 L st M = zcont true d 119 (zstep true (zEm true d) 10 58 0 [] L st M) := zEv_step rfl
theorem e119_58 (d : Nat) (L st : List zV) (M : zM) : zEv true d 119 58 L st M = zcont true d 119 (zstep true (zEm true d) 52 61 62 [] L st M) := zEv_step rfl
theorem e119_61 (d : Nat) (L st : List zV) (M : zM) : zEv true d 119 61 L st M = zcont true d 119 (zstep true (zEm true d) 0 62 0 [0] L st M) := zEv_step rfl
theorem e119_62 (d : Nat) (L st : List zV) (M : zM) : zEv true d 119 62 L st M = zcont true d 119 (zstep true (zEm true d) 80 63 0 [] L st M) := zEv_step rfl
theorem s_isSilent (d : Nat) (a x0 h y : Int) (M : zM) : zEm true (d + 1) 114 [(26, a, x0), (0, h, y)] M = some ((0, if zbit (M a 8) h ≠ 0 then 1 else 0, 0), M) := by
  simp (disch := omega) only [m114, k_al0, k_gI, k_il1, k_ishr, k_ic, k_iand, k_ifeq, k_goto, k_rz, zbind_some, e114_0, e114_1, e114_4, e114_5, e114_6, e114_7, e114_8, e114_11, e114_12, e114_15, e114_16]
  unfold zbit
  split <;> simp_all
theorem s_isChild (d : Nat) (a x0 h y : Int) (M : zM) : zEm true (d + 1) 156 [(28, a, x0), (0, h, y)] M = some ((0, if zbit (M a 9) h ≠ 0 then 1 else 0, 0), M) := by
  simp (disch := omega) only [m156, k_al0, k_gI, k_il1, k_ishr, k_ic, k_iand, k_ifeq, k_goto, k_rz, zbind_some, e156_0, e156_1, e156_4, e156_5, e156_6, e156_7, e156_8, e156_11, e156_12, e156_15, e156_16]
  unfold zbit
  split <;> simp_all
