/-! the lines of a valley's text -/
theorem m81 (ph : Bool) (d : Nat) (a x0 : Int) (M : zM) : zEm ph (d + 1) 81 [(24, a, x0)] M = zEv ph d 81 0 [(24, a, x0)] [] M := rfl
theorem e81_0 (ph : Bool) (d : Nat) (L st : List zV) (M : zM) : zEv ph d 81 0 L st M = zcont ph d 81 (zstep ph (zEm ph d) 4 1 0 [0] L st M) := zEv_step rfl
theorem e81_1 (ph : Bool) (d : Nat) (L st : List zV) (M : zM) : zEv ph d 81 1 L st M = zcont ph d 81 (zstep ph (zEm ph d) 62 4 0 [24, 0, 1, 27, 0] L st M) := zEv_step rfl
theorem e81_4 (ph : Bool) (d : Nat) (L st : List zV) (M : zM) : zEv ph d 81 4 L st M = zcont ph d 81 (zstep ph (zEm ph d) 63 7 0 [27, 7] L st M) := zEv_step rfl
theorem e81_7 (ph : Bool) (d : Nat) (L st : List zV) (M : zM) : zEv ph d 81 7 L st M = zcont ph d 81 (zstep ph (zEm ph d) 77 10 0 [2] L st M) := zEv_step rfl
theorem e81_10 (ph : Bool) (d : Nat) (L st : List zV) (M : zM) : zEv ph d 81 10 L st M = zcont ph d 81 (zstep ph (zEm ph d) 53 13 22 [] L st M) := zEv_step rfl
theorem e81_13 (ph : Bool) (d : Nat) (L st : List zV) (M : zM) : zEv ph d 81 13 L st M = zcont ph d 81 (zstep ph (zEm ph d) 4 14 0 [0] L st M) := zEv_step rfl
theorem e81_14 (ph : Bool) (d : Nat) (L st : List zV) (M : zM) : zEv ph d 81 14 L st M = zcont ph d 81 (zstep ph (zEm ph d) 62 17 0 [24, 0, 1, 27, 0] L st M) := zEv_step rfl
theorem e81_17 (ph : Bool) (d : Nat) (L st : List zV) (M : zM) : zEv ph d 81 17 L st M = zcont ph d 81 (zstep ph (zEm ph d) 0 18 0 [1] L st M) := zEv_step rfl
theorem e81_18 (ph : Bool) (d : Nat) (L st : List zV) (M : zM) : zEv ph d 81 18 L st M = zcont ph d 81 (zstep ph (zEm ph d) 70 21 140 [2, 1, 27] L st M) := zEv_step rfl
theorem e81_21 (ph : Bool) (d : Nat) (L st : List zV) (M : zM) : zEv ph d 81 21 L st M = zcont ph d 81 (zstep ph (zEm ph d) 80 22 0 [0, 1] L st M) := zEv_step rfl
theorem e81_22 (ph : Bool) (d : Nat) (L st : List zV) (M : zM) : zEv ph d 81 22 L st M = zcont ph d 81 (zstep ph (zEm ph d) 4 23 0 [0] L st M) := zEv_step rfl
theorem e81_23 (ph : Bool) (d : Nat) (L st : List zV) (M : zM) : zEv ph d 81 23 L st M = zcont ph d 81 (zstep ph (zEm ph d) 62 26 0 [24, 1, 3, 28, 0] L st M) := zEv_step rfl
theorem e81_26 (ph : Bool) (d : Nat) (L st : List zV) (M : zM) : zEv ph d 81 26 L st M = zcont ph d 81 (zstep ph (zEm ph d) 4 27 0 [0] L st M) := zEv_step rfl
theorem e81_27 (ph : Bool) (d : Nat) (L st : List zV) (M : zM) : zEv ph d 81 27 L st M = zcont ph d 81 (zstep ph (zEm ph d) 62 30 0 [24, 0, 1, 27, 0] L st M) := zEv_step rfl
theorem e81_30 (ph : Bool) (d : Nat) (L st : List zV) (M : zM) : zEv ph d 81 30 L st M = zcont ph d 81 (zstep ph (zEm ph d) 61 33 0 [27, 8] L st M) := zEv_step rfl
theorem e81_33 (ph : Bool) (d : Nat) (L st : List zV) (M : zM) : zEv ph d 81 33 L st M = zcont ph d 81 (zstep ph (zEm ph d) 70 36 155 [2, 1, 28] L st M) := zEv_step rfl
theorem e81_36 (ph : Bool) (d : Nat) (L st : List zV) (M : zM) : zEv ph d 81 36 L st M = zcont ph d 81 (zstep ph (zEm ph d) 40 39 50 [] L st M) := zEv_step rfl
theorem e81_39 (ph : Bool) (d : Nat) (L st : List zV) (M : zM) : zEv ph d 81 39 L st M = zcont ph d 81 (zstep ph (zEm ph d) 4 40 0 [0] L st M) := zEv_step rfl
theorem e81_40 (ph : Bool) (d : Nat) (L st : List zV) (M : zM) : zEv ph d 81 40 L st M = zcont ph d 81 (zstep ph (zEm ph d) 62 43 0 [24, 0, 1, 27, 0] L st M) := zEv_step rfl
theorem e81_43 (ph : Bool) (d : Nat) (L st : List zV) (M : zM) : zEv ph d 81 43 L st M = zcont ph d 81 (zstep ph (zEm ph d) 0 44 0 [3] L st M) := zEv_step rfl
theorem e81_44 (ph : Bool) (d : Nat) (L st : List zV) (M : zM) : zEv ph d 81 44 L st M = zcont ph d 81 (zstep ph (zEm ph d) 70 47 140 [2, 1, 27] L st M) := zEv_step rfl
theorem e81_47 (ph : Bool) (d : Nat) (L st : List zV) (M : zM) : zEv ph d 81 47 L st M = zcont ph d 81 (zstep ph (zEm ph d) 40 50 54 [] L st M) := zEv_step rfl
theorem e81_50 (ph : Bool) (d : Nat) (L st : List zV) (M : zM) : zEv ph d 81 50 L st M = zcont ph d 81 (zstep ph (zEm ph d) 0 51 0 [1] L st M) := zEv_step rfl
theorem e81_51 (ph : Bool) (d : Nat) (L st : List zV) (M : zM) : zEv ph d 81 51 L st M = zcont ph d 81 (zstep ph (zEm ph d) 52 54 55 [] L st M) := zEv_step rfl
theorem e81_54 (ph : Bool) (d : Nat) (L st : List zV) (M : zM) : zEv ph d 81 54 L st M = zcont ph d 81 (zstep ph (zEm ph d) 0 55 0 [0] L st M) := zEv_step rfl
theorem e81_55 (ph : Bool) (d : Nat) (L st : List zV) (M : zM) : zEv ph d 81 55 L st M = zcont ph d 81 (zstep ph (zEm ph d) 80 56 0 [0, 1] L st M) := zEv_step rfl
theorem m90 (ph : Bool) (d : Nat) (a x0 p0 y0 : Int) (M : zM) : zEm ph (d + 1) 90 [(24, a, x0), (0, p0, y0)] M = zEv ph d 90 0 [(24, a, x0), (0, p0, y0)] [] M := rfl
theorem e90_0 (ph : Bool) (d : Nat) (L st : List zV) (M : zM) : zEv ph d 90 0 L st M = zcont ph d 90 (zstep ph (zEm ph d) 4 1 0 [0] L st M) := zEv_step rfl
theorem e90_1 (ph : Bool) (d : Nat) (L st : List zV) (M : zM) : zEv ph d 90 1 L st M = zcont ph d 90 (zstep ph (zEm ph d) 60 4 0 [24, 5] L st M) := zEv_step rfl
theorem e90_4 (ph : Bool) (d : Nat) (L st : List zV) (M : zM) : zEv ph d 90 4 L st M = zcont ph d 90 (zstep ph (zEm ph d) 2 5 0 [1] L st M) := zEv_step rfl
theorem e90_5 (ph : Bool) (d : Nat) (L st : List zV) (M : zM) : zEv ph d 90 5 L st M = zcont ph d 90 (zstep ph (zEm ph d) 16 6 0 [] L st M) := zEv_step rfl
theorem e90_6 (ph : Bool) (d : Nat) (L st : List zV) (M : zM) : zEv ph d 90 6 L st M = zcont ph d 90 (zstep ph (zEm ph d) 40 9 18 [] L st M) := zEv_step rfl
theorem e90_9 (ph : Bool) (d : Nat) (L st : List zV) (M : zM) : zEv ph d 90 9 L st M = zcont ph d 90 (zstep ph (zEm ph d) 4 10 0 [0] L st M) := zEv_step rfl
theorem e90_10 (ph : Bool) (d : Nat) (L st : List zV) (M : zM) : zEv ph d 90 10 L st M = zcont ph d 90 (zstep ph (zEm ph d) 62 13 0 [24, 0, 1, 27, 0] L st M) := zEv_step rfl
theorem e90_13 (ph : Bool) (d : Nat) (L st : List zV) (M : zM) : zEv ph d 90 13 L st M = zcont ph d 90 (zstep ph (zEm ph d) 0 14 0 [3] L st M) := zEv_step rfl
theorem e90_14 (ph : Bool) (d : Nat) (L st : List zV) (M : zM) : zEv ph d 90 14 L st M = zcont ph d 90 (zstep ph (zEm ph d) 70 17 140 [2, 1, 27] L st M) := zEv_step rfl
theorem e90_17 (ph : Bool) (d : Nat) (L st : List zV) (M : zM) : zEv ph d 90 17 L st M = zcont ph d 90 (zstep ph (zEm ph d) 80 18 0 [0, 1] L st M) := zEv_step rfl
theorem e90_18 (ph : Bool) (d : Nat) (L st : List zV) (M : zM) : zEv ph d 90 18 L st M = zcont ph d 90 (zstep ph (zEm ph d) 4 19 0 [0] L st M) := zEv_step rfl
theorem e90_19 (ph : Bool) (d : Nat) (L st : List zV) (M : zM) : zEv ph d 90 19 L st M = zcont ph d 90 (zstep ph (zEm ph d) 36 20 0 [] L st M) := zEv_step rfl
theorem e90_20 (ph : Bool) (d : Nat) (L st : List zV) (M : zM) : zEv ph d 90 20 L st M = zcont ph d 90 (zstep ph (zEm ph d) 60 23 0 [24, 5] L st M) := zEv_step rfl
theorem e90_23 (ph : Bool) (d : Nat) (L st : List zV) (M : zM) : zEv ph d 90 23 L st M = zcont ph d 90 (zstep ph (zEm ph d) 2 24 0 [1] L st M) := zEv_step rfl
theorem e90_24 (ph : Bool) (d : Nat) (L st : List zV) (M : zM) : zEv ph d 90 24 L st M = zcont ph d 90 (zstep ph (zEm ph d) 17 25 0 [] L st M) := zEv_step rfl
theorem e90_25 (ph : Bool) (d : Nat) (L st : List zV) (M : zM) : zEv ph d 90 25 L st M = zcont ph d 90 (zstep ph (zEm ph d) 65 28 0 [24, 5] L st M) := zEv_step rfl
theorem e90_28 (ph : Bool) (d : Nat) (L st : List zV) (M : zM) : zEv ph d 90 28 L st M = zcont ph d 90 (zstep ph (zEm ph d) 0 29 0 [1] L st M) := zEv_step rfl
theorem e90_29 (ph : Bool) (d : Nat) (L st : List zV) (M : zM) : zEv ph d 90 29 L st M = zcont ph d 90 (zstep ph (zEm ph d) 80 30 0 [0, 1] L st M) := zEv_step rfl
theorem m194 (ph : Bool) (d : Nat) (a x0 p0 y0 : Int) (M : zM) : zEm ph (d + 1) 194 [(30, a, x0), (0, p0, y0)] M = zEv ph d 194 0 [(30, a, x0), (0, p0, y0)] [] M := rfl
theorem e194_0 (ph : Bool) (d : Nat) (L st : List zV) (M : zM) : zEv ph d 194 0 L st M = zcont ph d 194 (zstep ph (zEm ph d) 4 1 0 [0] L st M) := zEv_step rfl
theorem e194_1 (ph : Bool) (d : Nat) (L st : List zV) (M : zM) : zEv ph d 194 1 L st M = zcont ph d 194 (zstep ph (zEm ph d) 62 4 0 [30, 23, 11, 12, 6] L st M) := zEv_step rfl
theorem e194_4 (ph : Bool) (d : Nat) (L st : List zV) (M : zM) : zEv ph d 194 4 L st M = zcont ph d 194 (zstep ph (zEm ph d) 2 5 0 [1] L st M) := zEv_step rfl
theorem e194_5 (ph : Bool) (d : Nat) (L st : List zV) (M : zM) : zEv ph d 194 5 L st M = zcont ph d 194 (zstep ph (zEm ph d) 87 6 0 [] L st M) := zEv_step rfl
theorem e194_6 (ph : Bool) (d : Nat) (L st : List zV) (M : zM) : zEv ph d 194 6 L st M = zcont ph d 194 (zstep ph (zEm ph d) 40 9 15 [] L st M) := zEv_step rfl
theorem e194_9 (ph : Bool) (d : Nat) (L st : List zV) (M : zM) : zEv ph d 194 9 L st M = zcont ph d 194 (zstep ph (zEm ph d) 4 10 0 [0] L st M) := zEv_step rfl
theorem e194_10 (ph : Bool) (d : Nat) (L st : List zV) (M : zM) : zEv ph d 194 10 L st M = zcont ph d 194 (zstep ph (zEm ph d) 0 11 0 [3] L st M) := zEv_step rfl
theorem e194_11 (ph : Bool) (d : Nat) (L st : List zV) (M : zM) : zEv ph d 194 11 L st M = zcont ph d 194 (zstep ph (zEm ph d) 70 14 182 [2, 1, 30] L st M) := zEv_step rfl
theorem e194_14 (ph : Bool) (d : Nat) (L st : List zV) (M : zM) : zEv ph d 194 14 L st M = zcont ph d 194 (zstep ph (zEm ph d) 80 15 0 [0, 1] L st M) := zEv_step rfl
theorem e194_15 (ph : Bool) (d : Nat) (L st : List zV) (M : zM) : zEv ph d 194 15 L st M = zcont ph d 194 (zstep ph (zEm ph d) 4 16 0 [0] L st M) := zEv_step rfl
theorem e194_16 (ph : Bool) (d : Nat) (L st : List zV) (M : zM) : zEv ph d 194 16 L st M = zcont ph d 194 (zstep ph (zEm ph d) 62 19 0 [30, 23, 11, 12, 6] L st M) := zEv_step rfl
theorem e194_19 (ph : Bool) (d : Nat) (L st : List zV) (M : zM) : zEv ph d 194 19 L st M = zcont ph d 194 (zstep ph (zEm ph d) 2 20 0 [1] L st M) := zEv_step rfl
theorem e194_20 (ph : Bool) (d : Nat) (L st : List zV) (M : zM) : zEv ph d 194 20 L st M = zcont ph d 194 (zstep ph (zEm ph d) 0 21 0 [1] L st M) := zEv_step rfl
theorem e194_21 (ph : Bool) (d : Nat) (L st : List zV) (M : zM) : zEv ph d 194 21 L st M = zcont ph d 194 (zstep ph (zEm ph d) 91 22 0 [] L st M) := zEv_step rfl
theorem e194_22 (ph : Bool) (d : Nat) (L st : List zV) (M : zM) : zEv ph d 194 22 L st M = zcont ph d 194 (zstep ph (zEm ph d) 4 23 0 [0] L st M) := zEv_step rfl
theorem e194_23 (ph : Bool) (d : Nat) (L st : List zV) (M : zM) : zEv ph d 194 23 L st M = zcont ph d 194 (zstep ph (zEm ph d) 70 26 176 [1, 0, 30] L st M) := zEv_step rfl
theorem e194_26 (ph : Bool) (d : Nat) (L st : List zV) (M : zM) : zEv ph d 194 26 L st M = zcont ph d 194 (zstep ph (zEm ph d) 0 27 0 [1] L st M) := zEv_step rfl
theorem e194_27 (ph : Bool) (d : Nat) (L st : List zV) (M : zM) : zEv ph d 194 27 L st M = zcont ph d 194 (zstep ph (zEm ph d) 80 28 0 [0, 1] L st M) := zEv_step rfl
theorem m192 (ph : Bool) (d : Nat) (a x0 p0 y0 p1 y1 : Int) (M : zM) : zEm ph (d + 1) 192 [(30, a, x0), (0, p0, y0), (0, p1, y1)] M = zEv ph d 192 0 [(30, a, x0), (0, p0, y0), (0, p1, y1)] [] M := rfl
theorem e192_0 (ph : Bool) (d : Nat) (L st : List zV) (M : zM) : zEv ph d 192 0 L st M = zcont ph d 192 (zstep ph (zEm ph d) 4 1 0 [0] L st M) := zEv_step rfl
theorem e192_1 (ph : Bool) (d : Nat) (L st : List zV) (M : zM) : zEv ph d 192 1 L st M = zcont ph d 192 (zstep ph (zEm ph d) 62 4 0 [30, 15, 3, 10, 75] L st M) := zEv_step rfl
theorem e192_4 (ph : Bool) (d : Nat) (L st : List zV) (M : zM) : zEv ph d 192 4 L st M = zcont ph d 192 (zstep ph (zEm ph d) 2 5 0 [1] L st M) := zEv_step rfl
theorem e192_5 (ph : Bool) (d : Nat) (L st : List zV) (M : zM) : zEv ph d 192 5 L st M = zcont ph d 192 (zstep ph (zEm ph d) 85 6 0 [] L st M) := zEv_step rfl
theorem e192_6 (ph : Bool) (d : Nat) (L st : List zV) (M : zM) : zEv ph d 192 6 L st M = zcont ph d 192 (zstep ph (zEm ph d) 2 7 0 [2] L st M) := zEv_step rfl
theorem e192_7 (ph : Bool) (d : Nat) (L st : List zV) (M : zM) : zEv ph d 192 7 L st M = zcont ph d 192 (zstep ph (zEm ph d) 47 10 16 [] L st M) := zEv_step rfl
theorem e192_10 (ph : Bool) (d : Nat) (L st : List zV) (M : zM) : zEv ph d 192 10 L st M = zcont ph d 192 (zstep ph (zEm ph d) 4 11 0 [0] L st M) := zEv_step rfl
theorem e192_11 (ph : Bool) (d : Nat) (L st : List zV) (M : zM) : zEv ph d 192 11 L st M = zcont ph d 192 (zstep ph (zEm ph d) 0 12 0 [4] L st M) := zEv_step rfl
theorem e192_12 (ph : Bool) (d : Nat) (L st : List zV) (M : zM) : zEv ph d 192 12 L st M = zcont ph d 192 (zstep ph (zEm ph d) 70 15 182 [2, 1, 30] L st M) := zEv_step rfl
theorem e192_15 (ph : Bool) (d : Nat) (L st : List zV) (M : zM) : zEv ph d 192 15 L st M = zcont ph d 192 (zstep ph (zEm ph d) 80 16 0 [0, 1] L st M) := zEv_step rfl
theorem e192_16 (ph : Bool) (d : Nat) (L st : List zV) (M : zM) : zEv ph d 192 16 L st M = zcont ph d 192 (zstep ph (zEm ph d) 4 17 0 [0] L st M) := zEv_step rfl
theorem e192_17 (ph : Bool) (d : Nat) (L st : List zV) (M : zM) : zEv ph d 192 17 L st M = zcont ph d 192 (zstep ph (zEm ph d) 70 20 176 [1, 0, 30] L st M) := zEv_step rfl
theorem e192_20 (ph : Bool) (d : Nat) (L st : List zV) (M : zM) : zEv ph d 192 20 L st M = zcont ph d 192 (zstep ph (zEm ph d) 0 21 0 [1] L st M) := zEv_step rfl
theorem e192_21 (ph : Bool) (d : Nat) (L st : List zV) (M : zM) : zEv ph d 192 21 L st M = zcont ph d 192 (zstep ph (zEm ph d) 80 22 0 [0, 1] L st M) := zEv_step rfl
theorem m193 (ph : Bool) (d : Nat) (a x0 p0 y0 p1 y1 : Int) (M : zM) : zEm ph (d + 1) 193 [(30, a, x0), (0, p0, y0), (0, p1, y1)] M = zEv ph d 193 0 [(30, a, x0), (0, p0, y0), (0, p1, y1)] [] M := rfl
theorem e193_0 (ph : Bool) (d : Nat) (L st : List zV) (M : zM) : zEv ph d 193 0 L st M = zcont ph d 193 (zstep ph (zEm ph d) 2 1 0 [2] L st M) := zEv_step rfl
theorem e193_1 (ph : Bool) (d : Nat) (L st : List zV) (M : zM) : zEv ph d 193 1 L st M = zcont ph d 193 (zstep ph (zEm ph d) 40 4 14 [] L st M) := zEv_step rfl
theorem e193_4 (ph : Bool) (d : Nat) (L st : List zV) (M : zM) : zEv ph d 193 4 L st M = zcont ph d 193 (zstep ph (zEm ph d) 4 5 0 [0] L st M) := zEv_step rfl
theorem e193_5 (ph : Bool) (d : Nat) (L st : List zV) (M : zM) : zEv ph d 193 5 L st M = zcont ph d 193 (zstep ph (zEm ph d) 62 8 0 [30, 15, 3, 10, 75] L st M) := zEv_step rfl
theorem e193_8 (ph : Bool) (d : Nat) (L st : List zV) (M : zM) : zEv ph d 193 8 L st M = zcont ph d 193 (zstep ph (zEm ph d) 2 9 0 [1] L st M) := zEv_step rfl
theorem e193_9 (ph : Bool) (d : Nat) (L st : List zV) (M : zM) : zEv ph d 193 9 L st M = zcont ph d 193 (zstep ph (zEm ph d) 4 10 0 [0] L st M) := zEv_step rfl
theorem e193_10 (ph : Bool) (d : Nat) (L st : List zV) (M : zM) : zEv ph d 193 10 L st M = zcont ph d 193 (zstep ph (zEm ph d) 60 13 0 [30, 13] L st M) := zEv_step rfl
theorem e193_13 (ph : Bool) (d : Nat) (L st : List zV) (M : zM) : zEv ph d 193 13 L st M = zcont ph d 193 (zstep ph (zEm ph d) 89 14 0 [] L st M) := zEv_step rfl
theorem e193_14 (ph : Bool) (d : Nat) (L st : List zV) (M : zM) : zEv ph d 193 14 L st M = zcont ph d 193 (zstep ph (zEm ph d) 2 15 0 [2] L st M) := zEv_step rfl
theorem e193_15 (ph : Bool) (d : Nat) (L st : List zV) (M : zM) : zEv ph d 193 15 L st M = zcont ph d 193 (zstep ph (zEm ph d) 80 16 0 [0, 1] L st M) := zEv_step rfl
theorem m82 (ph : Bool) (d : Nat) (a x0 : Int) (M : zM) : zEm ph (d + 1) 82 [(24, a, x0)] M = zEv ph d 82 0 [(24, a, x0)] [] M := rfl
theorem e82_0 (ph : Bool) (d : Nat) (L st : List zV) (M : zM) : zEv ph d 82 0 L st M = zcont ph d 82 (zstep ph (zEm ph d) 4 1 0 [0] L st M) := zEv_step rfl
theorem e82_1 (ph : Bool) (d : Nat) (L st : List zV) (M : zM) : zEv ph d 82 1 L st M = zcont ph d 82 (zstep ph (zEm ph d) 62 4 0 [24, 1, 3, 28, 0] L st M) := zEv_step rfl
theorem e82_4 (ph : Bool) (d : Nat) (L st : List zV) (M : zM) : zEv ph d 82 4 L st M = zcont ph d 82 (zstep ph (zEm ph d) 60 7 0 [28, 6] L st M) := zEv_step rfl
theorem e82_7 (ph : Bool) (d : Nat) (L st : List zV) (M : zM) : zEv ph d 82 7 L st M = zcont ph d 82 (zstep ph (zEm ph d) 0 8 0 [5] L st M) := zEv_step rfl
theorem e82_8 (ph : Bool) (d : Nat) (L st : List zV) (M : zM) : zEv ph d 82 8 L st M = zcont ph d 82 (zstep ph (zEm ph d) 48 11 20 [] L st M) := zEv_step rfl
theorem e82_11 (ph : Bool) (d : Nat) (L st : List zV) (M : zM) : zEv ph d 82 11 L st M = zcont ph d 82 (zstep ph (zEm ph d) 4 12 0 [0] L st M) := zEv_step rfl
theorem e82_12 (ph : Bool) (d : Nat) (L st : List zV) (M : zM) : zEv ph d 82 12 L st M = zcont ph d 82 (zstep ph (zEm ph d) 62 15 0 [24, 0, 1, 27, 0] L st M) := zEv_step rfl
theorem e82_15 (ph : Bool) (d : Nat) (L st : List zV) (M : zM) : zEv ph d 82 15 L st M = zcont ph d 82 (zstep ph (zEm ph d) 0 16 0 [4] L st M) := zEv_step rfl
theorem e82_16 (ph : Bool) (d : Nat) (L st : List zV) (M : zM) : zEv ph d 82 16 L st M = zcont ph d 82 (zstep ph (zEm ph d) 70 19 140 [2, 1, 27] L st M) := zEv_step rfl
theorem e82_19 (ph : Bool) (d : Nat) (L st : List zV) (M : zM) : zEv ph d 82 19 L st M = zcont ph d 82 (zstep ph (zEm ph d) 80 20 0 [0, 1] L st M) := zEv_step rfl
theorem e82_20 (ph : Bool) (d : Nat) (L st : List zV) (M : zM) : zEv ph d 82 20 L st M = zcont ph d 82 (zstep ph (zEm ph d) 4 21 0 [0] L st M) := zEv_step rfl
theorem e82_21 (ph : Bool) (d : Nat) (L st : List zV) (M : zM) : zEv ph d 82 21 L st M = zcont ph d 82 (zstep ph (zEm ph d) 62 24 0 [24, 0, 1, 27, 0] L st M) := zEv_step rfl
theorem e82_24 (ph : Bool) (d : Nat) (L st : List zV) (M : zM) : zEv ph d 82 24 L st M = zcont ph d 82 (zstep ph (zEm ph d) 70 27 141 [1, 0, 27] L st M) := zEv_step rfl
theorem e82_27 (ph : Bool) (d : Nat) (L st : List zV) (M : zM) : zEv ph d 82 27 L st M = zcont ph d 82 (zstep ph (zEm ph d) 4 28 0 [0] L st M) := zEv_step rfl
theorem e82_28 (ph : Bool) (d : Nat) (L st : List zV) (M : zM) : zEv ph d 82 28 L st M = zcont ph d 82 (zstep ph (zEm ph d) 70 31 81 [1, 1, 24] L st M) := zEv_step rfl
theorem e82_31 (ph : Bool) (d : Nat) (L st : List zV) (M : zM) : zEv ph d 82 31 L st M = zcont ph d 82 (zstep ph (zEm ph d) 41 34 36 [] L st M) := zEv_step rfl
theorem e82_34 (ph : Bool) (d : Nat) (L st : List zV) (M : zM) : zEv ph d 82 34 L st M = zcont ph d 82 (zstep ph (zEm ph d) 0 35 0 [0] L st M) := zEv_step rfl
theorem e82_35 (ph : Bool) (d : Nat) (L st : List zV) (M : zM) : zEv ph d 82 35 L st M = zcont ph d 82 (zstep ph (zEm ph d) 80 36 0 [0, 1] L st M) := zEv_step rfl
theorem e82_36 (ph : Bool) (d : Nat) (L st : List zV) (M : zM) : zEv ph d 82 36 L st M = zcont ph d 82 (zstep ph (zEm ph d) 4 37 0 [0] L st M) := zEv_step rfl
theorem e82_37 (ph : Bool) (d : Nat) (L st : List zV) (M : zM) : zEv ph d 82 37 L st M = zcont ph d 82 (zstep ph (zEm ph d) 62 40 0 [24, 1, 3, 28, 0] L st M) := zEv_step rfl
theorem e82_40 (ph : Bool) (d : Nat) (L st : List zV) (M : zM) : zEv ph d 82 40 L st M = zcont ph d 82 (zstep ph (zEm ph d) 62 43 0 [28, 0, 1, 11, 5] L st M) := zEv_step rfl
theorem e82_43 (ph : Bool) (d : Nat) (L st : List zV) (M : zM) : zEv ph d 82 43 L st M = zcont ph d 82 (zstep ph (zEm ph d) 4 44 0 [0] L st M) := zEv_step rfl
theorem e82_44 (ph : Bool) (d : Nat) (L st : List zV) (M : zM) : zEv ph d 82 44 L st M = zcont ph d 82 (zstep ph (zEm ph d) 62 47 0 [24, 1, 3, 28, 0] L st M) := zEv_step rfl
theorem e82_47 (ph : Bool) (d : Nat) (L st : List zV) (M : zM) : zEv ph d 82 47 L st M = zcont ph d 82 (zstep ph (zEm ph d) 60 50 0 [28, 6] L st M) := zEv_step rfl
theorem e82_50 (ph : Bool) (d : Nat) (L st : List zV) (M : zM) : zEv ph d 82 50 L st M = zcont ph d 82 (zstep ph (zEm ph d) 4 51 0 [0] L st M) := zEv_step rfl
theorem e82_51 (ph : Bool) (d : Nat) (L st : List zV) (M : zM) : zEv ph d 82 51 L st M = zcont ph d 82 (zstep ph (zEm ph d) 62 54 0 [24, 0, 1, 27, 0] L st M) := zEv_step rfl
theorem e82_54 (ph : Bool) (d : Nat) (L st : List zV) (M : zM) : zEv ph d 82 54 L st M = zcont ph d 82 (zstep ph (zEm ph d) 61 57 0 [27, 8] L st M) := zEv_step rfl
theorem e82_57 (ph : Bool) (d : Nat) (L st : List zV) (M : zM) : zEv ph d 82 57 L st M = zcont ph d 82 (zstep ph (zEm ph d) 90 58 0 [] L st M) := zEv_step rfl
theorem e82_58 (ph : Bool) (d : Nat) (L st : List zV) (M : zM) : zEv ph d 82 58 L st M = zcont ph d 82 (zstep ph (zEm ph d) 4 59 0 [0] L st M) := zEv_step rfl
theorem e82_59 (ph : Bool) (d : Nat) (L st : List zV) (M : zM) : zEv ph d 82 59 L st M = zcont ph d 82 (zstep ph (zEm ph d) 62 62 0 [24, 1, 3, 28, 0] L st M) := zEv_step rfl
theorem e82_62 (ph : Bool) (d : Nat) (L st : List zV) (M : zM) : zEv ph d 82 62 L st M = zcont ph d 82 (zstep ph (zEm ph d) 36 63 0 [] L st M) := zEv_step rfl
theorem e82_63 (ph : Bool) (d : Nat) (L st : List zV) (M : zM) : zEv ph d 82 63 L st M = zcont ph d 82 (zstep ph (zEm ph d) 60 66 0 [28, 6] L st M) := zEv_step rfl
theorem e82_66 (ph : Bool) (d : Nat) (L st : List zV) (M : zM) : zEv ph d 82 66 L st M = zcont ph d 82 (zstep ph (zEm ph d) 0 67 0 [1] L st M) := zEv_step rfl
theorem e82_67 (ph : Bool) (d : Nat) (L st : List zV) (M : zM) : zEv ph d 82 67 L st M = zcont ph d 82 (zstep ph (zEm ph d) 10 68 0 [] L st M) := zEv_step rfl
theorem e82_68 (ph : Bool) (d : Nat) (L st : List zV) (M : zM) : zEv ph d 82 68 L st M = zcont ph d 82 (zstep ph (zEm ph d) 65 71 0 [28, 6] L st M) := zEv_step rfl
theorem e82_71 (ph : Bool) (d : Nat) (L st : List zV) (M : zM) : zEv ph d 82 71 L st M = zcont ph d 82 (zstep ph (zEm ph d) 4 72 0 [0] L st M) := zEv_step rfl
theorem e82_72 (ph : Bool) (d : Nat) (L st : List zV) (M : zM) : zEv ph d 82 72 L st M = zcont ph d 82 (zstep ph (zEm ph d) 62 75 0 [24, 0, 1, 27, 0] L st M) := zEv_step rfl
theorem e82_75 (ph : Bool) (d : Nat) (L st : List zV) (M : zM) : zEv ph d 82 75 L st M = zcont ph d 82 (zstep ph (zEm ph d) 70 78 141 [1, 0, 27] L st M) := zEv_step rfl
theorem e82_78 (ph : Bool) (d : Nat) (L st : List zV) (M : zM) : zEv ph d 82 78 L st M = zcont ph d 82 (zstep ph (zEm ph d) 0 79 0 [1] L st M) := zEv_step rfl
theorem e82_79 (ph : Bool) (d : Nat) (L st : List zV) (M : zM) : zEv ph d 82 79 L st M = zcont ph d 82 (zstep ph (zEm ph d) 80 80 0 [0, 1] L st M) := zEv_step rfl
theorem m83 (ph : Bool) (d : Nat) (a x0 : Int) (M : zM) : zEm ph (d + 1) 83 [(24, a, x0)] M = zEv ph d 83 0 [(24, a, x0)] [] M := rfl
theorem e83_0 (ph : Bool) (d : Nat) (L st : List zV) (M : zM) : zEv ph d 83 0 L st M = zcont ph d 83 (zstep ph (zEm ph d) 4 1 0 [0] L st M) := zEv_step rfl
theorem e83_1 (ph : Bool) (d : Nat) (L st : List zV) (M : zM) : zEv ph d 83 1 L st M = zcont ph d 83 (zstep ph (zEm ph d) 62 4 0 [24, 1, 3, 28, 0] L st M) := zEv_step rfl
theorem e83_4 (ph : Bool) (d : Nat) (L st : List zV) (M : zM) : zEv ph d 83 4 L st M = zcont ph d 83 (zstep ph (zEm ph d) 60 7 0 [28, 8] L st M) := zEv_step rfl
theorem e83_7 (ph : Bool) (d : Nat) (L st : List zV) (M : zM) : zEv ph d 83 7 L st M = zcont ph d 83 (zstep ph (zEm ph d) 0 8 0 [5] L st M) := zEv_step rfl
theorem e83_8 (ph : Bool) (d : Nat) (L st : List zV) (M : zM) : zEv ph d 83 8 L st M = zcont ph d 83 (zstep ph (zEm ph d) 48 11 20 [] L st M) := zEv_step rfl
theorem e83_11 (ph : Bool) (d : Nat) (L st : List zV) (M : zM) : zEv ph d 83 11 L st M = zcont ph d 83 (zstep ph (zEm ph d) 4 12 0 [0] L st M) := zEv_step rfl
theorem e83_12 (ph : Bool) (d : Nat) (L st : List zV) (M : zM) : zEv ph d 83 12 L st M = zcont ph d 83 (zstep ph (zEm ph d) 62 15 0 [24, 0, 1, 27, 0] L st M) := zEv_step rfl
theorem e83_15 (ph : Bool) (d : Nat) (L st : List zV) (M : zM) : zEv ph d 83 15 L st M = zcont ph d 83 (zstep ph (zEm ph d) 0 16 0 [4] L st M) := zEv_step rfl
theorem e83_16 (ph : Bool) (d : Nat) (L st : List zV) (M : zM) : zEv ph d 83 16 L st M = zcont ph d 83 (zstep ph (zEm ph d) 70 19 140 [2, 1, 27] L st M) := zEv_step rfl
theorem e83_19 (ph : Bool) (d : Nat) (L st : List zV) (M : zM) : zEv ph d 83 19 L st M = zcont ph d 83 (zstep ph (zEm ph d) 80 20 0 [0, 1] L st M) := zEv_step rfl
theorem e83_20 (ph : Bool) (d : Nat) (L st : List zV) (M : zM) : zEv ph d 83 20 L st M = zcont ph d 83 (zstep ph (zEm ph d) 4 21 0 [0] L st M) := zEv_step rfl
theorem e83_21 (ph : Bool) (d : Nat) (L st : List zV) (M : zM) : zEv ph d 83 21 L st M = zcont ph d 83 (zstep ph (zEm ph d) 62 24 0 [24, 0, 1, 27, 0] L st M) := zEv_step rfl
theorem e83_24 (ph : Bool) (d : Nat) (L st : List zV) (M : zM) : zEv ph d 83 24 L st M = zcont ph d 83 (zstep ph (zEm ph d) 70 27 141 [1, 0, 27] L st M) := zEv_step rfl
theorem e83_27 (ph : Bool) (d : Nat) (L st : List zV) (M : zM) : zEv ph d 83 27 L st M = zcont ph d 83 (zstep ph (zEm ph d) 4 28 0 [0] L st M) := zEv_step rfl
theorem e83_28 (ph : Bool) (d : Nat) (L st : List zV) (M : zM) : zEv ph d 83 28 L st M = zcont ph d 83 (zstep ph (zEm ph d) 70 31 81 [1, 1, 24] L st M) := zEv_step rfl
theorem e83_31 (ph : Bool) (d : Nat) (L st : List zV) (M : zM) : zEv ph d 83 31 L st M = zcont ph d 83 (zstep ph (zEm ph d) 41 34 36 [] L st M) := zEv_step rfl
theorem e83_34 (ph : Bool) (d : Nat) (L st : List zV) (M : zM) : zEv ph d 83 34 L st M = zcont ph d 83 (zstep ph (zEm ph d) 0 35 0 [0] L st M) := zEv_step rfl
theorem e83_35 (ph : Bool) (d : Nat) (L st : List zV) (M : zM) : zEv ph d 83 35 L st M = zcont ph d 83 (zstep ph (zEm ph d) 80 36 0 [0, 1] L st M) := zEv_step rfl
theorem e83_36 (ph : Bool) (d : Nat) (L st : List zV) (M : zM) : zEv ph d 83 36 L st M = zcont ph d 83 (zstep ph (zEm ph d) 4 37 0 [0] L st M) := zEv_step rfl
theorem e83_37 (ph : Bool) (d : Nat) (L st : List zV) (M : zM) : zEv ph d 83 37 L st M = zcont ph d 83 (zstep ph (zEm ph d) 62 40 0 [24, 1, 3, 28, 0] L st M) := zEv_step rfl
theorem e83_40 (ph : Bool) (d : Nat) (L st : List zV) (M : zM) : zEv ph d 83 40 L st M = zcont ph d 83 (zstep ph (zEm ph d) 62 43 0 [28, 2, 3, 11, 5] L st M) := zEv_step rfl
theorem e83_43 (ph : Bool) (d : Nat) (L st : List zV) (M : zM) : zEv ph d 83 43 L st M = zcont ph d 83 (zstep ph (zEm ph d) 4 44 0 [0] L st M) := zEv_step rfl
theorem e83_44 (ph : Bool) (d : Nat) (L st : List zV) (M : zM) : zEv ph d 83 44 L st M = zcont ph d 83 (zstep ph (zEm ph d) 62 47 0 [24, 1, 3, 28, 0] L st M) := zEv_step rfl
theorem e83_47 (ph : Bool) (d : Nat) (L st : List zV) (M : zM) : zEv ph d 83 47 L st M = zcont ph d 83 (zstep ph (zEm ph d) 60 50 0 [28, 8] L st M) := zEv_step rfl
theorem e83_50 (ph : Bool) (d : Nat) (L st : List zV) (M : zM) : zEv ph d 83 50 L st M = zcont ph d 83 (zstep ph (zEm ph d) 4 51 0 [0] L st M) := zEv_step rfl
theorem e83_51 (ph : Bool) (d : Nat) (L st : List zV) (M : zM) : zEv ph d 83 51 L st M = zcont ph d 83 (zstep ph (zEm ph d) 62 54 0 [24, 0, 1, 27, 0] L st M) := zEv_step rfl
theorem e83_54 (ph : Bool) (d : Nat) (L st : List zV) (M : zM) : zEv ph d 83 54 L st M = zcont ph d 83 (zstep ph (zEm ph d) 61 57 0 [27, 8] L st M) := zEv_step rfl
theorem e83_57 (ph : Bool) (d : Nat) (L st : List zV) (M : zM) : zEv ph d 83 57 L st M = zcont ph d 83 (zstep ph (zEm ph d) 90 58 0 [] L st M) := zEv_step rfl
theorem e83_58 (ph : Bool) (d : Nat) (L st : List zV) (M : zM) : zEv ph d 83 58 L st M = zcont ph d 83 (zstep ph (zEm ph d) 4 59 0 [0] L st M) := zEv_step rfl
theorem e83_59 (ph : Bool) (d : Nat) (L st : List zV) (M : zM) : zEv ph d 83 59 L st M = zcont ph d 83 (zstep ph (zEm ph d) 62 62 0 [24, 1, 3, 28, 0] L st M) := zEv_step rfl
theorem e83_62 (ph : Bool) (d : Nat) (L st : List zV) (M : zM) : zEv ph d 83 62 L st M = zcont ph d 83 (zstep ph (zEm ph d) 36 63 0 [] L st M) := zEv_step rfl
theorem e83_63 (ph : Bool) (d : Nat) (L st : List zV) (M : zM) : zEv ph d 83 63 L st M = zcont ph d 83 (zstep ph (zEm ph d) 60 66 0 [28, 8] L st M) := zEv_step rfl
theorem e83_66 (ph : Bool) (d : Nat) (L st : List zV) (M : zM) : zEv ph d 83 66 L st M = zcont ph d 83 (zstep ph (zEm ph d) 0 67 0 [1] L st M) := zEv_step rfl
theorem e83_67 (ph : Bool) (d : Nat) (L st : List zV) (M : zM) : zEv ph d 83 67 L st M = zcont ph d 83 (zstep ph (zEm ph d) 10 68 0 [] L st M) := zEv_step rfl
theorem e83_68 (ph : Bool) (d : Nat) (L st : List zV) (M : zM) : zEv ph d 83 68 L st M = zcont ph d 83 (zstep ph (zEm ph d) 65 71 0 [28, 8] L st M) := zEv_step rfl
theorem e83_71 (ph : Bool) (d : Nat) (L st : List zV) (M : zM) : zEv ph d 83 71 L st M = zcont ph d 83 (zstep ph (zEm ph d) 4 72 0 [0] L st M) := zEv_step rfl
theorem e83_72 (ph : Bool) (d : Nat) (L st : List zV) (M : zM) : zEv ph d 83 72 L st M = zcont ph d 83 (zstep ph (zEm ph d) 62 75 0 [24, 0, 1, 27, 0] L st M) := zEv_step rfl
theorem e83_75 (ph : Bool) (d : Nat) (L st : List zV) (M : zM) : zEv ph d 83 75 L st M = zcont ph d 83 (zstep ph (zEm ph d) 70 78 141 [1, 0, 27] L st M) := zEv_step rfl
theorem e83_78 (ph : Bool) (d : Nat) (L st : List zV) (M : zM) : zEv ph d 83 78 L st M = zcont ph d 83 (zstep ph (zEm ph d) 0 79 0 [1] L st M) := zEv_step rfl
theorem e83_79 (ph : Bool) (d : Nat) (L st : List zV) (M : zM) : zEv ph d 83 79 L st M = zcont ph d 83 (zstep ph (zEm ph d) 80 80 0 [0, 1] L st M) := zEv_step rfl
theorem m84 (ph : Bool) (d : Nat) (a x0 : Int) (M : zM) : zEm ph (d + 1) 84 [(24, a, x0)] M = zEv ph d 84 0 [(24, a, x0), (3, 0, 0), (3, 0, 0), (3, 0, 0), (3, 0, 0)] [] M := rfl
theorem e84_0 (ph : Bool) (d : Nat) (L st : List zV) (M : zM) : zEv ph d 84 0 L st M = zcont ph d 84 (zstep ph (zEm ph d) 4 1 0 [0] L st M) := zEv_step rfl
theorem e84_1 (ph : Bool) (d : Nat) (L st : List zV) (M : zM) : zEv ph d 84 1 L st M = zcont ph d 84 (zstep ph (zEm ph d) 62 4 0 [24, 1, 3, 28, 0] L st M) := zEv_step rfl
theorem e84_4 (ph : Bool) (d : Nat) (L st : List zV) (M : zM) : zEv ph d 84 4 L st M = zcont ph d 84 (zstep ph (zEm ph d) 60 7 0 [28, 7] L st M) := zEv_step rfl
theorem e84_7 (ph : Bool) (d : Nat) (L st : List zV) (M : zM) : zEv ph d 84 7 L st M = zcont ph d 84 (zstep ph (zEm ph d) 5 8 0 [1] L st M) := zEv_step rfl
theorem e84_8 (ph : Bool) (d : Nat) (L st : List zV) (M : zM) : zEv ph d 84 8 L st M = zcont ph d 84 (zstep ph (zEm ph d) 2 9 0 [1] L st M) := zEv_step rfl
theorem e84_9 (ph : Bool) (d : Nat) (L st : List zV) (M : zM) : zEv ph d 84 9 L st M = zcont ph d 84 (zstep ph (zEm ph d) 0 11 0 [10] L st M) := zEv_step rfl
theorem e84_11 (ph : Bool) (d : Nat) (L st : List zV) (M : zM) : zEv ph d 84 11 L st M = zcont ph d 84 (zstep ph (zEm ph d) 48 14 23 [] L st M) := zEv_step rfl
theorem e84_14 (ph : Bool) (d : Nat) (L st : List zV) (M : zM) : zEv ph d 84 14 L st M = zcont ph d 84 (zstep ph (zEm ph d) 4 15 0 [0] L st M) := zEv_step rfl
theorem e84_15 (ph : Bool) (d : Nat) (L st : List zV) (M : zM) : zEv ph d 84 15 L st M = zcont ph d 84 (zstep ph (zEm ph d) 62 18 0 [24, 0, 1, 27, 0] L st M) := zEv_step rfl
theorem e84_18 (ph : Bool) (d : Nat) (L st : List zV) (M : zM) : zEv ph d 84 18 L st M = zcont ph d 84 (zstep ph (zEm ph d) 0 19 0 [4] L st M) := zEv_step rfl
theorem e84_19 (ph : Bool) (d : Nat) (L st : List zV) (M : zM) : zEv ph d 84 19 L st M = zcont ph d 84 (zstep ph (zEm ph d) 70 22 140 [2, 1, 27] L st M) := zEv_step rfl
theorem e84_22 (ph : Bool) (d : Nat) (L st : List zV) (M : zM) : zEv ph d 84 22 L st M = zcont ph d 84 (zstep ph (zEm ph d) 80 23 0 [0, 1] L st M) := zEv_step rfl
theorem e84_23 (ph : Bool) (d : Nat) (L st : List zV) (M : zM) : zEv ph d 84 23 L st M = zcont ph d 84 (zstep ph (zEm ph d) 4 24 0 [0] L st M) := zEv_step rfl
theorem e84_24 (ph : Bool) (d : Nat) (L st : List zV) (M : zM) : zEv ph d 84 24 L st M = zcont ph d 84 (zstep ph (zEm ph d) 62 27 0 [24, 0, 1, 27, 0] L st M) := zEv_step rfl
theorem e84_27 (ph : Bool) (d : Nat) (L st : List zV) (M : zM) : zEv ph d 84 27 L st M = zcont ph d 84 (zstep ph (zEm ph d) 70 30 141 [1, 0, 27] L st M) := zEv_step rfl
theorem e84_30 (ph : Bool) (d : Nat) (L st : List zV) (M : zM) : zEv ph d 84 30 L st M = zcont ph d 84 (zstep ph (zEm ph d) 4 31 0 [0] L st M) := zEv_step rfl
theorem e84_31 (ph : Bool) (d : Nat) (L st : List zV) (M : zM) : zEv ph d 84 31 L st M = zcont ph d 84 (zstep ph (zEm ph d) 70 34 81 [1, 1, 24] L st M) := zEv_step rfl
theorem e84_34 (ph : Bool) (d : Nat) (L st : List zV) (M : zM) : zEv ph d 84 34 L st M = zcont ph d 84 (zstep ph (zEm ph d) 41 37 39 [] L st M) := zEv_step rfl
theorem e84_37 (ph : Bool) (d : Nat) (L st : List zV) (M : zM) : zEv ph d 84 37 L st M = zcont ph d 84 (zstep ph (zEm ph d) 0 38 0 [0] L st M) := zEv_step rfl
theorem e84_38 (ph : Bool) (d : Nat) (L st : List zV) (M : zM) : zEv ph d 84 38 L st M = zcont ph d 84 (zstep ph (zEm ph d) 80 39 0 [0, 1] L st M) := zEv_step rfl
theorem e84_39 (ph : Bool) (d : Nat) (L st : List zV) (M : zM) : zEv ph d 84 39 L st M = zcont ph d 84 (zstep ph (zEm ph d) 4 40 0 [0] L st M) := zEv_step rfl
theorem e84_40 (ph : Bool) (d : Nat) (L st : List zV) (M : zM) : zEv ph d 84 40 L st M = zcont ph d 84 (zstep ph (zEm ph d) 62 43 0 [24, 1, 3, 28, 0] L st M) := zEv_step rfl
theorem e84_43 (ph : Bool) (d : Nat) (L st : List zV) (M : zM) : zEv ph d 84 43 L st M = zcont ph d 84 (zstep ph (zEm ph d) 62 46 0 [28, 1, 2, 11, 10] L st M) := zEv_step rfl
theorem e84_46 (ph : Bool) (d : Nat) (L st : List zV) (M : zM) : zEv ph d 84 46 L st M = zcont ph d 84 (zstep ph (zEm ph d) 2 47 0 [1] L st M) := zEv_step rfl
theorem e84_47 (ph : Bool) (d : Nat) (L st : List zV) (M : zM) : zEv ph d 84 47 L st M = zcont ph d 84 (zstep ph (zEm ph d) 4 48 0 [0] L st M) := zEv_step rfl
theorem e84_48 (ph : Bool) (d : Nat) (L st : List zV) (M : zM) : zEv ph d 84 48 L st M = zcont ph d 84 (zstep ph (zEm ph d) 62 51 0 [24, 0, 1, 27, 0] L st M) := zEv_step rfl
theorem e84_51 (ph : Bool) (d : Nat) (L st : List zV) (M : zM) : zEv ph d 84 51 L st M = zcont ph d 84 (zstep ph (zEm ph d) 61 54 0 [27, 8] L st M) := zEv_step rfl
theorem e84_54 (ph : Bool) (d : Nat) (L st : List zV) (M : zM) : zEv ph d 84 54 L st M = zcont ph d 84 (zstep ph (zEm ph d) 90 55 0 [] L st M) := zEv_step rfl
theorem e84_55 (ph : Bool) (d : Nat) (L st : List zV) (M : zM) : zEv ph d 84 55 L st M = zcont ph d 84 (zstep ph (zEm ph d) 4 56 0 [0] L st M) := zEv_step rfl
theorem e84_56 (ph : Bool) (d : Nat) (L st : List zV) (M : zM) : zEv ph d 84 56 L st M = zcont ph d 84 (zstep ph (zEm ph d) 62 59 0 [24, 0, 1, 27, 0] L st M) := zEv_step rfl
theorem e84_59 (ph : Bool) (d : Nat) (L st : List zV) (M : zM) : zEv ph d 84 59 L st M = zcont ph d 84 (zstep ph (zEm ph d) 70 62 141 [1, 0, 27] L st M) := zEv_step rfl
theorem e84_62 (ph : Bool) (d : Nat) (L st : List zV) (M : zM) : zEv ph d 84 62 L st M = zcont ph d 84 (zstep ph (zEm ph d) 4 63 0 [0] L st M) := zEv_step rfl
theorem e84_63 (ph : Bool) (d : Nat) (L st : List zV) (M : zM) : zEv ph d 84 63 L st M = zcont ph d 84 (zstep ph (zEm ph d) 62 66 0 [24, 0, 1, 27, 0] L st M) := zEv_step rfl
theorem e84_66 (ph : Bool) (d : Nat) (L st : List zV) (M : zM) : zEv ph d 84 66 L st M = zcont ph d 84 (zstep ph (zEm ph d) 4 67 0 [0] L st M) := zEv_step rfl
theorem e84_67 (ph : Bool) (d : Nat) (L st : List zV) (M : zM) : zEv ph d 84 67 L st M = zcont ph d 84 (zstep ph (zEm ph d) 62 70 0 [24, 1, 3, 28, 0] L st M) := zEv_step rfl
theorem e84_70 (ph : Bool) (d : Nat) (L st : List zV) (M : zM) : zEv ph d 84 70 L st M = zcont ph d 84 (zstep ph (zEm ph d) 62 73 0 [28, 0, 1, 11, 5] L st M) := zEv_step rfl
theorem e84_73 (ph : Bool) (d : Nat) (L st : List zV) (M : zM) : zEv ph d 84 73 L st M = zcont ph d 84 (zstep ph (zEm ph d) 4 74 0 [0] L st M) := zEv_step rfl
theorem e84_74 (ph : Bool) (d : Nat) (L st : List zV) (M : zM) : zEv ph d 84 74 L st M = zcont ph d 84 (zstep ph (zEm ph d) 62 77 0 [24, 1, 3, 28, 0] L st M) := zEv_step rfl
theorem e84_77 (ph : Bool) (d : Nat) (L st : List zV) (M : zM) : zEv ph d 84 77 L st M = zcont ph d 84 (zstep ph (zEm ph d) 60 80 0 [28, 6] L st M) := zEv_step rfl
theorem e84_80 (ph : Bool) (d : Nat) (L st : List zV) (M : zM) : zEv ph d 84 80 L st M = zcont ph d 84 (zstep ph (zEm ph d) 70 83 150 [3, 1, 27] L st M) := zEv_step rfl
theorem e84_83 (ph : Bool) (d : Nat) (L st : List zV) (M : zM) : zEv ph d 84 83 L st M = zcont ph d 84 (zstep ph (zEm ph d) 5 84 0 [2] L st M) := zEv_step rfl
theorem e84_84 (ph : Bool) (d : Nat) (L st : List zV) (M : zM) : zEv ph d 84 84 L st M = zcont ph d 84 (zstep ph (zEm ph d) 2 85 0 [2] L st M) := zEv_step rfl
theorem e84_85 (ph : Bool) (d : Nat) (L st : List zV) (M : zM) : zEv ph d 84 85 L st M = zcont ph d 84 (zstep ph (zEm ph d) 0 86 0 [-1] L st M) := zEv_step rfl
theorem e84_86 (ph : Bool) (d : Nat) (L st : List zV) (M : zM) : zEv ph d 84 86 L st M = zcont ph d 84 (zstep ph (zEm ph d) 47 89 93 [] L st M) := zEv_step rfl
theorem e84_89 (ph : Bool) (d : Nat) (L st : List zV) (M : zM) : zEv ph d 84 89 L st M = zcont ph d 84 (zstep ph (zEm ph d) 0 90 0 [-1] L st M) := zEv_step rfl
theorem e84_90 (ph : Bool) (d : Nat) (L st : List zV) (M : zM) : zEv ph d 84 90 L st M = zcont ph d 84 (zstep ph (zEm ph d) 52 93 103 [] L st M) := zEv_step rfl
theorem e84_93 (ph : Bool) (d : Nat) (L st : List zV) (M : zM) : zEv ph d 84 93 L st M = zcont ph d 84 (zstep ph (zEm ph d) 4 94 0 [0] L st M) := zEv_step rfl
theorem e84_94 (ph : Bool) (d : Nat) (L st : List zV) (M : zM) : zEv ph d 84 94 L st M = zcont ph d 84 (zstep ph (zEm ph d) 62 97 0 [24, 0, 1, 27, 0] L st M) := zEv_step rfl
theorem e84_97 (ph : Bool) (d : Nat) (L st : List zV) (M : zM) : zEv ph d 84 97 L st M = zcont ph d 84 (zstep ph (zEm ph d) 0 98 0 [0] L st M) := zEv_step rfl
theorem e84_98 (ph : Bool) (d : Nat) (L st : List zV) (M : zM) : zEv ph d 84 98 L st M = zcont ph d 84 (zstep ph (zEm ph d) 0 100 0 [20] L st M) := zEv_step rfl
theorem e84_100 (ph : Bool) (d : Nat) (L st : List zV) (M : zM) : zEv ph d 84 100 L st M = zcont ph d 84 (zstep ph (zEm ph d) 70 103 146 [3, 1, 27] L st M) := zEv_step rfl
theorem e84_103 (ph : Bool) (d : Nat) (L st : List zV) (M : zM) : zEv ph d 84 103 L st M = zcont ph d 84 (zstep ph (zEm ph d) 5 104 0 [3] L st M) := zEv_step rfl
theorem e84_104 (ph : Bool) (d : Nat) (L st : List zV) (M : zM) : zEv ph d 84 104 L st M = zcont ph d 84 (zstep ph (zEm ph d) 2 105 0 [3] L st M) := zEv_step rfl
theorem e84_105 (ph : Bool) (d : Nat) (L st : List zV) (M : zM) : zEv ph d 84 105 L st M = zcont ph d 84 (zstep ph (zEm ph d) 0 106 0 [-1] L st M) := zEv_step rfl
theorem e84_106 (ph : Bool) (d : Nat) (L st : List zV) (M : zM) : zEv ph d 84 106 L st M = zcont ph d 84 (zstep ph (zEm ph d) 47 109 113 [] L st M) := zEv_step rfl
theorem e84_109 (ph : Bool) (d : Nat) (L st : List zV) (M : zM) : zEv ph d 84 109 L st M = zcont ph d 84 (zstep ph (zEm ph d) 0 110 0 [-1] L st M) := zEv_step rfl
theorem e84_110 (ph : Bool) (d : Nat) (L st : List zV) (M : zM) : zEv ph d 84 110 L st M = zcont ph d 84 (zstep ph (zEm ph d) 52 113 123 [] L st M) := zEv_step rfl
theorem e84_113 (ph : Bool) (d : Nat) (L st : List zV) (M : zM) : zEv ph d 84 113 L st M = zcont ph d 84 (zstep ph (zEm ph d) 4 114 0 [0] L st M) := zEv_step rfl
theorem e84_114 (ph : Bool) (d : Nat) (L st : List zV) (M : zM) : zEv ph d 84 114 L st M = zcont ph d 84 (zstep ph (zEm ph d) 62 117 0 [24, 0, 1, 27, 0] L st M) := zEv_step rfl
theorem e84_117 (ph : Bool) (d : Nat) (L st : List zV) (M : zM) : zEv ph d 84 117 L st M = zcont ph d 84 (zstep ph (zEm ph d) 0 118 0 [0] L st M) := zEv_step rfl
theorem e84_118 (ph : Bool) (d : Nat) (L st : List zV) (M : zM) : zEv ph d 84 118 L st M = zcont ph d 84 (zstep ph (zEm ph d) 0 120 0 [99] L st M) := zEv_step rfl
theorem e84_120 (ph : Bool) (d : Nat) (L st : List zV) (M : zM) : zEv ph d 84 120 L st M = zcont ph d 84 (zstep ph (zEm ph d) 70 123 146 [3, 1, 27] L st M) := zEv_step rfl
theorem e84_123 (ph : Bool) (d : Nat) (L st : List zV) (M : zM) : zEv ph d 84 123 L st M = zcont ph d 84 (zstep ph (zEm ph d) 5 125 0 [4] L st M) := zEv_step rfl
theorem e84_125 (ph : Bool) (d : Nat) (L st : List zV) (M : zM) : zEv ph d 84 125 L st M = zcont ph d 84 (zstep ph (zEm ph d) 2 127 0 [4] L st M) := zEv_step rfl
theorem e84_127 (ph : Bool) (d : Nat) (L st : List zV) (M : zM) : zEv ph d 84 127 L st M = zcont ph d 84 (zstep ph (zEm ph d) 0 128 0 [-1] L st M) := zEv_step rfl
theorem e84_128 (ph : Bool) (d : Nat) (L st : List zV) (M : zM) : zEv ph d 84 128 L st M = zcont ph d 84 (zstep ph (zEm ph d) 47 131 133 [] L st M) := zEv_step rfl
theorem e84_131 (ph : Bool) (d : Nat) (L st : List zV) (M : zM) : zEv ph d 84 131 L st M = zcont ph d 84 (zstep ph (zEm ph d) 0 132 0 [0] L st M) := zEv_step rfl
theorem e84_132 (ph : Bool) (d : Nat) (L st : List zV) (M : zM) : zEv ph d 84 132 L st M = zcont ph d 84 (zstep ph (zEm ph d) 80 133 0 [0, 1] L st M) := zEv_step rfl
theorem e84_133 (ph : Bool) (d : Nat) (L st : List zV) (M : zM) : zEv ph d 84 133 L st M = zcont ph d 84 (zstep ph (zEm ph d) 4 134 0 [0] L st M) := zEv_step rfl
theorem e84_134 (ph : Bool) (d : Nat) (L st : List zV) (M : zM) : zEv ph d 84 134 L st M = zcont ph d 84 (zstep ph (zEm ph d) 62 137 0 [24, 1, 3, 28, 0] L st M) := zEv_step rfl
theorem e84_137 (ph : Bool) (d : Nat) (L st : List zV) (M : zM) : zEv ph d 84 137 L st M = zcont ph d 84 (zstep ph (zEm ph d) 62 140 0 [28, 3, 4, 10, 10] L st M) := zEv_step rfl
theorem e84_140 (ph : Bool) (d : Nat) (L st : List zV) (M : zM) : zEv ph d 84 140 L st M = zcont ph d 84 (zstep ph (zEm ph d) 2 141 0 [1] L st M) := zEv_step rfl
theorem e84_141 (ph : Bool) (d : Nat) (L st : List zV) (M : zM) : zEv ph d 84 141 L st M = zcont ph d 84 (zstep ph (zEm ph d) 2 142 0 [2] L st M) := zEv_step rfl
theorem e84_142 (ph : Bool) (d : Nat) (L st : List zV) (M : zM) : zEv ph d 84 142 L st M = zcont ph d 84 (zstep ph (zEm ph d) 89 143 0 [] L st M) := zEv_step rfl
theorem e84_143 (ph : Bool) (d : Nat) (L st : List zV) (M : zM) : zEv ph d 84 143 L st M = zcont ph d 84 (zstep ph (zEm ph d) 4 144 0 [0] L st M) := zEv_step rfl
theorem e84_144 (ph : Bool) (d : Nat) (L st : List zV) (M : zM) : zEv ph d 84 144 L st M = zcont ph d 84 (zstep ph (zEm ph d) 62 147 0 [24, 2, 10, 26, 0] L st M) := zEv_step rfl
theorem e84_147 (ph : Bool) (d : Nat) (L st : List zV) (M : zM) : zEv ph d 84 147 L st M = zcont ph d 84 (zstep ph (zEm ph d) 62 150 0 [26, 0, 1, 10, 10] L st M) := zEv_step rfl
theorem e84_150 (ph : Bool) (d : Nat) (L st : List zV) (M : zM) : zEv ph d 84 150 L st M = zcont ph d 84 (zstep ph (zEm ph d) 2 151 0 [1] L st M) := zEv_step rfl
theorem e84_151 (ph : Bool) (d : Nat) (L st : List zV) (M : zM) : zEv ph d 84 151 L st M = zcont ph d 84 (zstep ph (zEm ph d) 2 152 0 [3] L st M) := zEv_step rfl
theorem e84_152 (ph : Bool) (d : Nat) (L st : List zV) (M : zM) : zEv ph d 84 152 L st M = zcont ph d 84 (zstep ph (zEm ph d) 89 153 0 [] L st M) := zEv_step rfl
theorem e84_153 (ph : Bool) (d : Nat) (L st : List zV) (M : zM) : zEv ph d 84 153 L st M = zcont ph d 84 (zstep ph (zEm ph d) 4 154 0 [0] L st M) := zEv_step rfl
theorem e84_154 (ph : Bool) (d : Nat) (L st : List zV) (M : zM) : zEv ph d 84 154 L st M = zcont ph d 84 (zstep ph (zEm ph d) 62 157 0 [24, 2, 10, 26, 0] L st M) := zEv_step rfl
theorem e84_157 (ph : Bool) (d : Nat) (L st : List zV) (M : zM) : zEv ph d 84 157 L st M = zcont ph d 84 (zstep ph (zEm ph d) 62 160 0 [26, 1, 2, 10, 10] L st M) := zEv_step rfl
theorem e84_160 (ph : Bool) (d : Nat) (L st : List zV) (M : zM) : zEv ph d 84 160 L st M = zcont ph d 84 (zstep ph (zEm ph d) 2 161 0 [1] L st M) := zEv_step rfl
theorem e84_161 (ph : Bool) (d : Nat) (L st : List zV) (M : zM) : zEv ph d 84 161 L st M = zcont ph d 84 (zstep ph (zEm ph d) 2 163 0 [4] L st M) := zEv_step rfl
theorem e84_163 (ph : Bool) (d : Nat) (L st : List zV) (M : zM) : zEv ph d 84 163 L st M = zcont ph d 84 (zstep ph (zEm ph d) 89 164 0 [] L st M) := zEv_step rfl
theorem e84_164 (ph : Bool) (d : Nat) (L st : List zV) (M : zM) : zEv ph d 84 164 L st M = zcont ph d 84 (zstep ph (zEm ph d) 4 165 0 [0] L st M) := zEv_step rfl
theorem e84_165 (ph : Bool) (d : Nat) (L st : List zV) (M : zM) : zEv ph d 84 165 L st M = zcont ph d 84 (zstep ph (zEm ph d) 62 168 0 [24, 0, 1, 27, 0] L st M) := zEv_step rfl
theorem e84_168 (ph : Bool) (d : Nat) (L st : List zV) (M : zM) : zEv ph d 84 168 L st M = zcont ph d 84 (zstep ph (zEm ph d) 63 171 0 [27, 7] L st M) := zEv_step rfl
theorem e84_171 (ph : Bool) (d : Nat) (L st : List zV) (M : zM) : zEv ph d 84 171 L st M = zcont ph d 84 (zstep ph (zEm ph d) 77 174 0 [5] L st M) := zEv_step rfl
theorem e84_174 (ph : Bool) (d : Nat) (L st : List zV) (M : zM) : zEv ph d 84 174 L st M = zcont ph d 84 (zstep ph (zEm ph d) 54 177 199 [] L st M) := zEv_step rfl
theorem e84_177 (ph : Bool) (d : Nat) (L st : List zV) (M : zM) : zEv ph d 84 177 L st M = zcont ph d 84 (zstep ph (zEm ph d) 4 178 0 [0] L st M) := zEv_step rfl
theorem e84_178 (ph : Bool) (d : Nat) (L st : List zV) (M : zM) : zEv ph d 84 178 L st M = zcont ph d 84 (zstep ph (zEm ph d) 62 181 0 [24, 1, 3, 28, 0] L st M) := zEv_step rfl
theorem e84_181 (ph : Bool) (d : Nat) (L st : List zV) (M : zM) : zEv ph d 84 181 L st M = zcont ph d 84 (zstep ph (zEm ph d) 36 182 0 [] L st M) := zEv_step rfl
theorem e84_182 (ph : Bool) (d : Nat) (L st : List zV) (M : zM) : zEv ph d 84 182 L st M = zcont ph d 84 (zstep ph (zEm ph d) 60 185 0 [28, 9] L st M) := zEv_step rfl
theorem e84_185 (ph : Bool) (d : Nat) (L st : List zV) (M : zM) : zEv ph d 84 185 L st M = zcont ph d 84 (zstep ph (zEm ph d) 0 186 0 [1] L st M) := zEv_step rfl
theorem e84_186 (ph : Bool) (d : Nat) (L st : List zV) (M : zM) : zEv ph d 84 186 L st M = zcont ph d 84 (zstep ph (zEm ph d) 2 187 0 [1] L st M) := zEv_step rfl
theorem e84_187 (ph : Bool) (d : Nat) (L st : List zV) (M : zM) : zEv ph d 84 187 L st M = zcont ph d 84 (zstep ph (zEm ph d) 19 188 0 [] L st M) := zEv_step rfl
theorem e84_188 (ph : Bool) (d : Nat) (L st : List zV) (M : zM) : zEv ph d 84 188 L st M = zcont ph d 84 (zstep ph (zEm ph d) 17 189 0 [] L st M) := zEv_step rfl
theorem e84_189 (ph : Bool) (d : Nat) (L st : List zV) (M : zM) : zEv ph d 84 189 L st M = zcont ph d 84 (zstep ph (zEm ph d) 65 192 0 [28, 9] L st M) := zEv_step rfl
theorem e84_192 (ph : Bool) (d : Nat) (L st : List zV) (M : zM) : zEv ph d 84 192 L st M = zcont ph d 84 (zstep ph (zEm ph d) 4 193 0 [0] L st M) := zEv_step rfl
theorem e84_193 (ph : Bool) (d : Nat) (L st : List zV) (M : zM) : zEv ph d 84 193 L st M = zcont ph d 84 (zstep ph (zEm ph d) 62 196 0 [24, 0, 1, 27, 0] L st M) := zEv_step rfl
theorem e84_196 (ph : Bool) (d : Nat) (L st : List zV) (M : zM) : zEv ph d 84 196 L st M = zcont ph d 84 (zstep ph (zEm ph d) 70 199 141 [1, 0, 27] L st M) := zEv_step rfl
theorem e84_199 (ph : Bool) (d : Nat) (L st : List zV) (M : zM) : zEv ph d 84 199 L st M = zcont ph d 84 (zstep ph (zEm ph d) 4 200 0 [0] L st M) := zEv_step rfl
theorem e84_200 (ph : Bool) (d : Nat) (L st : List zV) (M : zM) : zEv ph d 84 200 L st M = zcont ph d 84 (zstep ph (zEm ph d) 62 203 0 [24, 1, 3, 28, 0] L st M) := zEv_step rfl
theorem e84_203 (ph : Bool) (d : Nat) (L st : List zV) (M : zM) : zEv ph d 84 203 L st M = zcont ph d 84 (zstep ph (zEm ph d) 36 204 0 [] L st M) := zEv_step rfl
theorem e84_204 (ph : Bool) (d : Nat) (L st : List zV) (M : zM) : zEv ph d 84 204 L st M = zcont ph d 84 (zstep ph (zEm ph d) 60 207 0 [28, 7] L st M) := zEv_step rfl
theorem e84_207 (ph : Bool) (d : Nat) (L st : List zV) (M : zM) : zEv ph d 84 207 L st M = zcont ph d 84 (zstep ph (zEm ph d) 0 208 0 [1] L st M) := zEv_step rfl
theorem e84_208 (ph : Bool) (d : Nat) (L st : List zV) (M : zM) : zEv ph d 84 208 L st M = zcont ph d 84 (zstep ph (zEm ph d) 10 209 0 [] L st M) := zEv_step rfl
theorem e84_209 (ph : Bool) (d : Nat) (L st : List zV) (M : zM) : zEv ph d 84 209 L st M = zcont ph d 84 (zstep ph (zEm ph d) 65 212 0 [28, 7] L st M) := zEv_step rfl
theorem e84_212 (ph : Bool) (d : Nat) (L st : List zV) (M : zM) : zEv ph d 84 212 L st M = zcont ph d 84 (zstep ph (zEm ph d) 0 213 0 [1] L st M) := zEv_step rfl
theorem e84_213 (ph : Bool) (d : Nat) (L st : List zV) (M : zM) : zEv ph d 84 213 L st M = zcont ph d 84 (zstep ph (zEm ph d) 80 214 0 [0, 1] L st M) := zEv_step rfl
theorem m85 (ph : Bool) (d : Nat) (a x0 : Int) (M : zM) : zEm ph (d + 1) 85 [(24, a, x0)] M = zEv ph d 85 0 [(24, a, x0), (3, 0, 0), (3, 0, 0), (3, 0, 0)] [] M := rfl
theorem e85_0 (ph : Bool) (d : Nat) (L st : List zV) (M : zM) : zEv ph d 85 0 L st M = zcont ph d 85 (zstep ph (zEm ph d) 4 1 0 [0] L st M) := zEv_step rfl
theorem e85_1 (ph : Bool) (d : Nat) (L st : List zV) (M : zM) : zEv ph d 85 1 L st M = zcont ph d 85 (zstep ph (zEm ph d) 62 4 0 [24, 0, 1, 27, 0] L st M) := zEv_step rfl
theorem e85_4 (ph : Bool) (d : Nat) (L st : List zV) (M : zM) : zEv ph d 85 4 L st M = zcont ph d 85 (zstep ph (zEm ph d) 70 7 141 [1, 0, 27] L st M) := zEv_step rfl
theorem e85_7 (ph : Bool) (d : Nat) (L st : List zV) (M : zM) : zEv ph d 85 7 L st M = zcont ph d 85 (zstep ph (zEm ph d) 4 8 0 [0] L st M) := zEv_step rfl
theorem e85_8 (ph : Bool) (d : Nat) (L st : List zV) (M : zM) : zEv ph d 85 8 L st M = zcont ph d 85 (zstep ph (zEm ph d) 62 11 0 [24, 0, 1, 27, 0] L st M) := zEv_step rfl
theorem e85_11 (ph : Bool) (d : Nat) (L st : List zV) (M : zM) : zEv ph d 85 11 L st M = zcont ph d 85 (zstep ph (zEm ph d) 4 12 0 [0] L st M) := zEv_step rfl
theorem e85_12 (ph : Bool) (d : Nat) (L st : List zV) (M : zM) : zEv ph d 85 12 L st M = zcont ph d 85 (zstep ph (zEm ph d) 62 15 0 [24, 1, 3, 28, 0] L st M) := zEv_step rfl
theorem e85_15 (ph : Bool) (d : Nat) (L st : List zV) (M : zM) : zEv ph d 85 15 L st M = zcont ph d 85 (zstep ph (zEm ph d) 62 18 0 [28, 1, 2, 11, 10] L st M) := zEv_step rfl
theorem e85_18 (ph : Bool) (d : Nat) (L st : List zV) (M : zM) : zEv ph d 85 18 L st M = zcont ph d 85 (zstep ph (zEm ph d) 4 19 0 [0] L st M) := zEv_step rfl
theorem e85_19 (ph : Bool) (d : Nat) (L st : List zV) (M : zM) : zEv ph d 85 19 L st M = zcont ph d 85 (zstep ph (zEm ph d) 62 22 0 [24, 1, 3, 28, 0] L st M) := zEv_step rfl
theorem e85_22 (ph : Bool) (d : Nat) (L st : List zV) (M : zM) : zEv ph d 85 22 L st M = zcont ph d 85 (zstep ph (zEm ph d) 60 25 0 [28, 7] L st M) := zEv_step rfl
theorem e85_25 (ph : Bool) (d : Nat) (L st : List zV) (M : zM) : zEv ph d 85 25 L st M = zcont ph d 85 (zstep ph (zEm ph d) 70 28 150 [3, 1, 27] L st M) := zEv_step rfl
theorem e85_28 (ph : Bool) (d : Nat) (L st : List zV) (M : zM) : zEv ph d 85 28 L st M = zcont ph d 85 (zstep ph (zEm ph d) 5 29 0 [1] L st M) := zEv_step rfl
theorem e85_29 (ph : Bool) (d : Nat) (L st : List zV) (M : zM) : zEv ph d 85 29 L st M = zcont ph d 85 (zstep ph (zEm ph d) 2 30 0 [1] L st M) := zEv_step rfl
theorem e85_30 (ph : Bool) (d : Nat) (L st : List zV) (M : zM) : zEv ph d 85 30 L st M = zcont ph d 85 (zstep ph (zEm ph d) 0 31 0 [-1] L st M) := zEv_step rfl
theorem e85_31 (ph : Bool) (d : Nat) (L st : List zV) (M : zM) : zEv ph d 85 31 L st M = zcont ph d 85 (zstep ph (zEm ph d) 47 34 38 [] L st M) := zEv_step rfl
theorem e85_34 (ph : Bool) (d : Nat) (L st : List zV) (M : zM) : zEv ph d 85 34 L st M = zcont ph d 85 (zstep ph (zEm ph d) 0 35 0 [-1] L st M) := zEv_step rfl
theorem e85_35 (ph : Bool) (d : Nat) (L st : List zV) (M : zM) : zEv ph d 85 35 L st M = zcont ph d 85 (zstep ph (zEm ph d) 52 38 59 [] L st M) := zEv_step rfl
theorem e85_38 (ph : Bool) (d : Nat) (L st : List zV) (M : zM) : zEv ph d 85 38 L st M = zcont ph d 85 (zstep ph (zEm ph d) 4 39 0 [0] L st M) := zEv_step rfl
theorem e85_39 (ph : Bool) (d : Nat) (L st : List zV) (M : zM) : zEv ph d 85 39 L st M = zcont ph d 85 (zstep ph (zEm ph d) 62 42 0 [24, 0, 1, 27, 0] L st M) := zEv_step rfl
theorem e85_42 (ph : Bool) (d : Nat) (L st : List zV) (M : zM) : zEv ph d 85 42 L st M = zcont ph d 85 (zstep ph (zEm ph d) 4 43 0 [0] L st M) := zEv_step rfl
theorem e85_43 (ph : Bool) (d : Nat) (L st : List zV) (M : zM) : zEv ph d 85 43 L st M = zcont ph d 85 (zstep ph (zEm ph d) 62 46 0 [24, 1, 3, 28, 0] L st M) := zEv_step rfl
theorem e85_46 (ph : Bool) (d : Nat) (L st : List zV) (M : zM) : zEv ph d 85 46 L st M = zcont ph d 85 (zstep ph (zEm ph d) 62 49 0 [28, 2, 3, 11, 5] L st M) := zEv_step rfl
theorem e85_49 (ph : Bool) (d : Nat) (L st : List zV) (M : zM) : zEv ph d 85 49 L st M = zcont ph d 85 (zstep ph (zEm ph d) 4 50 0 [0] L st M) := zEv_step rfl
theorem e85_50 (ph : Bool) (d : Nat) (L st : List zV) (M : zM) : zEv ph d 85 50 L st M = zcont ph d 85 (zstep ph (zEm ph d) 62 53 0 [24, 1, 3, 28, 0] L st M) := zEv_step rfl
theorem e85_53 (ph : Bool) (d : Nat) (L st : List zV) (M : zM) : zEv ph d 85 53 L st M = zcont ph d 85 (zstep ph (zEm ph d) 60 56 0 [28, 8] L st M) := zEv_step rfl
theorem e85_56 (ph : Bool) (d : Nat) (L st : List zV) (M : zM) : zEv ph d 85 56 L st M = zcont ph d 85 (zstep ph (zEm ph d) 70 59 149 [3, 1, 27] L st M) := zEv_step rfl
theorem e85_59 (ph : Bool) (d : Nat) (L st : List zV) (M : zM) : zEv ph d 85 59 L st M = zcont ph d 85 (zstep ph (zEm ph d) 5 60 0 [2] L st M) := zEv_step rfl
theorem e85_60 (ph : Bool) (d : Nat) (L st : List zV) (M : zM) : zEv ph d 85 60 L st M = zcont ph d 85 (zstep ph (zEm ph d) 2 61 0 [2] L st M) := zEv_step rfl
theorem e85_61 (ph : Bool) (d : Nat) (L st : List zV) (M : zM) : zEv ph d 85 61 L st M = zcont ph d 85 (zstep ph (zEm ph d) 0 62 0 [-1] L st M) := zEv_step rfl
theorem e85_62 (ph : Bool) (d : Nat) (L st : List zV) (M : zM) : zEv ph d 85 62 L st M = zcont ph d 85 (zstep ph (zEm ph d) 47 65 67 [] L st M) := zEv_step rfl
theorem e85_65 (ph : Bool) (d : Nat) (L st : List zV) (M : zM) : zEv ph d 85 65 L st M = zcont ph d 85 (zstep ph (zEm ph d) 0 66 0 [0] L st M) := zEv_step rfl
theorem e85_66 (ph : Bool) (d : Nat) (L st : List zV) (M : zM) : zEv ph d 85 66 L st M = zcont ph d 85 (zstep ph (zEm ph d) 80 67 0 [0, 1] L st M) := zEv_step rfl
theorem e85_67 (ph : Bool) (d : Nat) (L st : List zV) (M : zM) : zEv ph d 85 67 L st M = zcont ph d 85 (zstep ph (zEm ph d) 4 68 0 [0] L st M) := zEv_step rfl
theorem e85_68 (ph : Bool) (d : Nat) (L st : List zV) (M : zM) : zEv ph d 85 68 L st M = zcont ph d 85 (zstep ph (zEm ph d) 62 71 0 [24, 2, 10, 26, 0] L st M) := zEv_step rfl
theorem e85_71 (ph : Bool) (d : Nat) (L st : List zV) (M : zM) : zEv ph d 85 71 L st M = zcont ph d 85 (zstep ph (zEm ph d) 2 72 0 [1] L st M) := zEv_step rfl
theorem e85_72 (ph : Bool) (d : Nat) (L st : List zV) (M : zM) : zEv ph d 85 72 L st M = zcont ph d 85 (zstep ph (zEm ph d) 2 73 0 [2] L st M) := zEv_step rfl
theorem e85_73 (ph : Bool) (d : Nat) (L st : List zV) (M : zM) : zEv ph d 85 73 L st M = zcont ph d 85 (zstep ph (zEm ph d) 70 76 117 [3, 1, 26] L st M) := zEv_step rfl
theorem e85_76 (ph : Bool) (d : Nat) (L st : List zV) (M : zM) : zEv ph d 85 76 L st M = zcont ph d 85 (zstep ph (zEm ph d) 0 78 0 [-2] L st M) := zEv_step rfl
theorem e85_78 (ph : Bool) (d : Nat) (L st : List zV) (M : zM) : zEv ph d 85 78 L st M = zcont ph d 85 (zstep ph (zEm ph d) 46 81 90 [] L st M) := zEv_step rfl
theorem e85_81 (ph : Bool) (d : Nat) (L st : List zV) (M : zM) : zEv ph d 85 81 L st M = zcont ph d 85 (zstep ph (zEm ph d) 4 82 0 [0] L st M) := zEv_step rfl
theorem e85_82 (ph : Bool) (d : Nat) (L st : List zV) (M : zM) : zEv ph d 85 82 L st M = zcont ph d 85 (zstep ph (zEm ph d) 62 85 0 [24, 0, 1, 27, 0] L st M) := zEv_step rfl
theorem e85_85 (ph : Bool) (d : Nat) (L st : List zV) (M : zM) : zEv ph d 85 85 L st M = zcont ph d 85 (zstep ph (zEm ph d) 0 86 0 [3] L st M) := zEv_step rfl
theorem e85_86 (ph : Bool) (d : Nat) (L st : List zV) (M : zM) : zEv ph d 85 86 L st M = zcont ph d 85 (zstep ph (zEm ph d) 70 89 140 [2, 1, 27] L st M) := zEv_step rfl
theorem e85_89 (ph : Bool) (d : Nat) (L st : List zV) (M : zM) : zEv ph d 85 89 L st M = zcont ph d 85 (zstep ph (zEm ph d) 80 90 0 [0, 1] L st M) := zEv_step rfl
theorem e85_90 (ph : Bool) (d : Nat) (L st : List zV) (M : zM) : zEv ph d 85 90 L st M = zcont ph d 85 (zstep ph (zEm ph d) 4 91 0 [0] L st M) := zEv_step rfl
theorem e85_91 (ph : Bool) (d : Nat) (L st : List zV) (M : zM) : zEv ph d 85 91 L st M = zcont ph d 85 (zstep ph (zEm ph d) 62 94 0 [24, 0, 1, 27, 0] L st M) := zEv_step rfl
theorem e85_94 (ph : Bool) (d : Nat) (L st : List zV) (M : zM) : zEv ph d 85 94 L st M = zcont ph d 85 (zstep ph (zEm ph d) 70 97 141 [1, 0, 27] L st M) := zEv_step rfl
theorem e85_97 (ph : Bool) (d : Nat) (L st : List zV) (M : zM) : zEv ph d 85 97 L st M = zcont ph d 85 (zstep ph (zEm ph d) 4 98 0 [0] L st M) := zEv_step rfl
theorem e85_98 (ph : Bool) (d : Nat) (L st : List zV) (M : zM) : zEv ph d 85 98 L st M = zcont ph d 85 (zstep ph (zEm ph d) 62 101 0 [24, 0, 1, 27, 0] L st M) := zEv_step rfl
theorem e85_101 (ph : Bool) (d : Nat) (L st : List zV) (M : zM) : zEv ph d 85 101 L st M = zcont ph d 85 (zstep ph (zEm ph d) 70 104 148 [1, 1, 27] L st M) := zEv_step rfl
theorem e85_104 (ph : Bool) (d : Nat) (L st : List zV) (M : zM) : zEv ph d 85 104 L st M = zcont ph d 85 (zstep ph (zEm ph d) 5 105 0 [3] L st M) := zEv_step rfl
theorem e85_105 (ph : Bool) (d : Nat) (L st : List zV) (M : zM) : zEv ph d 85 105 L st M = zcont ph d 85 (zstep ph (zEm ph d) 2 106 0 [3] L st M) := zEv_step rfl
theorem e85_106 (ph : Bool) (d : Nat) (L st : List zV) (M : zM) : zEv ph d 85 106 L st M = zcont ph d 85 (zstep ph (zEm ph d) 0 107 0 [-1] L st M) := zEv_step rfl
theorem e85_107 (ph : Bool) (d : Nat) (L st : List zV) (M : zM) : zEv ph d 85 107 L st M = zcont ph d 85 (zstep ph (zEm ph d) 47 110 112 [] L st M) := zEv_step rfl
theorem e85_110 (ph : Bool) (d : Nat) (L st : List zV) (M : zM) : zEv ph d 85 110 L st M = zcont ph d 85 (zstep ph (zEm ph d) 0 111 0 [0] L st M) := zEv_step rfl
theorem e85_111 (ph : Bool) (d : Nat) (L st : List zV) (M : zM) : zEv ph d 85 111 L st M = zcont ph d 85 (zstep ph (zEm ph d) 80 112 0 [0, 1] L st M) := zEv_step rfl
theorem e85_112 (ph : Bool) (d : Nat) (L st : List zV) (M : zM) : zEv ph d 85 112 L st M = zcont ph d 85 (zstep ph (zEm ph d) 4 113 0 [0] L st M) := zEv_step rfl
theorem e85_113 (ph : Bool) (d : Nat) (L st : List zV) (M : zM) : zEv ph d 85 113 L st M = zcont ph d 85 (zstep ph (zEm ph d) 62 116 0 [24, 2, 10, 26, 0] L st M) := zEv_step rfl
theorem e85_116 (ph : Bool) (d : Nat) (L st : List zV) (M : zM) : zEv ph d 85 116 L st M = zcont ph d 85 (zstep ph (zEm ph d) 2 117 0 [1] L st M) := zEv_step rfl
theorem e85_117 (ph : Bool) (d : Nat) (L st : List zV) (M : zM) : zEv ph d 85 117 L st M = zcont ph d 85 (zstep ph (zEm ph d) 2 118 0 [2] L st M) := zEv_step rfl
theorem e85_118 (ph : Bool) (d : Nat) (L st : List zV) (M : zM) : zEv ph d 85 118 L st M = zcont ph d 85 (zstep ph (zEm ph d) 2 119 0 [3] L st M) := zEv_step rfl
theorem e85_119 (ph : Bool) (d : Nat) (L st : List zV) (M : zM) : zEv ph d 85 119 L st M = zcont ph d 85 (zstep ph (zEm ph d) 70 122 128 [4, 0, 26] L st M) := zEv_step rfl
theorem e85_122 (ph : Bool) (d : Nat) (L st : List zV) (M : zM) : zEv ph d 85 122 L st M = zcont ph d 85 (zstep ph (zEm ph d) 0 123 0 [1] L st M) := zEv_step rfl
theorem e85_123 (ph : Bool) (d : Nat) (L st : List zV) (M : zM) : zEv ph d 85 123 L st M = zcont ph d 85 (zstep ph (zEm ph d) 80 124 0 [0, 1] L st M) := zEv_step rfl
theorem m86 (ph : Bool) (d : Nat) (a x0 : Int) (M : zM) : zEm ph (d + 1) 86 [(24, a, x0)] M = zEv ph d 86 0 [(24, a, x0), (3, 0, 0), (3, 0, 0), (3, 0, 0)] [] M := rfl
theorem e86_0 (ph : Bool) (d : Nat) (L st : List zV) (M : zM) : zEv ph d 86 0 L st M = zcont ph d 86 (zstep ph (zEm ph d) 4 1 0 [0] L st M) := zEv_step rfl
theorem e86_1 (ph : Bool) (d : Nat) (L st : List zV) (M : zM) : zEv ph d 86 1 L st M = zcont ph d 86 (zstep ph (zEm ph d) 62 4 0 [24, 0, 1, 27, 0] L st M) := zEv_step rfl
theorem e86_4 (ph : Bool) (d : Nat) (L st : List zV) (M : zM) : zEv ph d 86 4 L st M = zcont ph d 86 (zstep ph (zEm ph d) 70 7 141 [1, 0, 27] L st M) := zEv_step rfl
theorem e86_7 (ph : Bool) (d : Nat) (L st : List zV) (M : zM) : zEv ph d 86 7 L st M = zcont ph d 86 (zstep ph (zEm ph d) 4 8 0 [0] L st M) := zEv_step rfl
theorem e86_8 (ph : Bool) (d : Nat) (L st : List zV) (M : zM) : zEv ph d 86 8 L st M = zcont ph d 86 (zstep ph (zEm ph d) 62 11 0 [24, 0, 1, 27, 0] L st M) := zEv_step rfl
theorem e86_11 (ph : Bool) (d : Nat) (L st : List zV) (M : zM) : zEv ph d 86 11 L st M = zcont ph d 86 (zstep ph (zEm ph d) 4 12 0 [0] L st M) := zEv_step rfl
theorem e86_12 (ph : Bool) (d : Nat) (L st : List zV) (M : zM) : zEv ph d 86 12 L st M = zcont ph d 86 (zstep ph (zEm ph d) 62 15 0 [24, 1, 3, 28, 0] L st M) := zEv_step rfl
theorem e86_15 (ph : Bool) (d : Nat) (L st : List zV) (M : zM) : zEv ph d 86 15 L st M = zcont ph d 86 (zstep ph (zEm ph d) 62 18 0 [28, 2, 3, 11, 5] L st M) := zEv_step rfl
theorem e86_18 (ph : Bool) (d : Nat) (L st : List zV) (M : zM) : zEv ph d 86 18 L st M = zcont ph d 86 (zstep ph (zEm ph d) 4 19 0 [0] L st M) := zEv_step rfl
theorem e86_19 (ph : Bool) (d : Nat) (L st : List zV) (M : zM) : zEv ph d 86 19 L st M = zcont ph d 86 (zstep ph (zEm ph d) 62 22 0 [24, 1, 3, 28, 0] L st M) := zEv_step rfl
theorem e86_22 (ph : Bool) (d : Nat) (L st : List zV) (M : zM) : zEv ph d 86 22 L st M = zcont ph d 86 (zstep ph (zEm ph d) 60 25 0 [28, 8] L st M) := zEv_step rfl
theorem e86_25 (ph : Bool) (d : Nat) (L st : List zV) (M : zM) : zEv ph d 86 25 L st M = zcont ph d 86 (zstep ph (zEm ph d) 70 28 150 [3, 1, 27] L st M) := zEv_step rfl
theorem e86_28 (ph : Bool) (d : Nat) (L st : List zV) (M : zM) : zEv ph d 86 28 L st M = zcont ph d 86 (zstep ph (zEm ph d) 5 29 0 [1] L st M) := zEv_step rfl
theorem e86_29 (ph : Bool) (d : Nat) (L st : List zV) (M : zM) : zEv ph d 86 29 L st M = zcont ph d 86 (zstep ph (zEm ph d) 2 30 0 [1] L st M) := zEv_step rfl
theorem e86_30 (ph : Bool) (d : Nat) (L st : List zV) (M : zM) : zEv ph d 86 30 L st M = zcont ph d 86 (zstep ph (zEm ph d) 0 31 0 [-1] L st M) := zEv_step rfl
theorem e86_31 (ph : Bool) (d : Nat) (L st : List zV) (M : zM) : zEv ph d 86 31 L st M = zcont ph d 86 (zstep ph (zEm ph d) 47 34 38 [] L st M) := zEv_step rfl
theorem e86_34 (ph : Bool) (d : Nat) (L st : List zV) (M : zM) : zEv ph d 86 34 L st M = zcont ph d 86 (zstep ph (zEm ph d) 0 35 0 [-1] L st M) := zEv_step rfl
theorem e86_35 (ph : Bool) (d : Nat) (L st : List zV) (M : zM) : zEv ph d 86 35 L st M = zcont ph d 86 (zstep ph (zEm ph d) 52 38 59 [] L st M) := zEv_step rfl
theorem e86_38 (ph : Bool) (d : Nat) (L st : List zV) (M : zM) : zEv ph d 86 38 L st M = zcont ph d 86 (zstep ph (zEm ph d) 4 39 0 [0] L st M) := zEv_step rfl
theorem e86_39 (ph : Bool) (d : Nat) (L st : List zV) (M : zM) : zEv ph d 86 39 L st M = zcont ph d 86 (zstep ph (zEm ph d) 62 42 0 [24, 0, 1, 27, 0] L st M) := zEv_step rfl
theorem e86_42 (ph : Bool) (d : Nat) (L st : List zV) (M : zM) : zEv ph d 86 42 L st M = zcont ph d 86 (zstep ph (zEm ph d) 4 43 0 [0] L st M) := zEv_step rfl
theorem e86_43 (ph : Bool) (d : Nat) (L st : List zV) (M : zM) : zEv ph d 86 43 L st M = zcont ph d 86 (zstep ph (zEm ph d) 62 46 0 [24, 1, 3, 28, 0] L st M) := zEv_step rfl
theorem e86_46 (ph : Bool) (d : Nat) (L st : List zV) (M : zM) : zEv ph d 86 46 L st M = zcont ph d 86 (zstep ph (zEm ph d) 62 49 0 [28, 0, 1, 11, 5] L st M) := zEv_step rfl
theorem e86_49 (ph : Bool) (d : Nat) (L st : List zV) (M : zM) : zEv ph d 86 49 L st M = zcont ph d 86 (zstep ph (zEm ph d) 4 50 0 [0] L st M) := zEv_step rfl
theorem e86_50 (ph : Bool) (d : Nat) (L st : List zV) (M : zM) : zEv ph d 86 50 L st M = zcont ph d 86 (zstep ph (zEm ph d) 62 53 0 [24, 1, 3, 28, 0] L st M) := zEv_step rfl
theorem e86_53 (ph : Bool) (d : Nat) (L st : List zV) (M : zM) : zEv ph d 86 53 L st M = zcont ph d 86 (zstep ph (zEm ph d) 60 56 0 [28, 6] L st M) := zEv_step rfl
theorem e86_56 (ph : Bool) (d : Nat) (L st : List zV) (M : zM) : zEv ph d 86 56 L st M = zcont ph d 86 (zstep ph (zEm ph d) 70 59 149 [3, 1, 27] L st M) := zEv_step rfl
theorem e86_59 (ph : Bool) (d : Nat) (L st : List zV) (M : zM) : zEv ph d 86 59 L st M = zcont ph d 86 (zstep ph (zEm ph d) 5 60 0 [2] L st M) := zEv_step rfl
theorem e86_60 (ph : Bool) (d : Nat) (L st : List zV) (M : zM) : zEv ph d 86 60 L st M = zcont ph d 86 (zstep ph (zEm ph d) 2 61 0 [2] L st M) := zEv_step rfl
theorem e86_61 (ph : Bool) (d : Nat) (L st : List zV) (M : zM) : zEv ph d 86 61 L st M = zcont ph d 86 (zstep ph (zEm ph d) 0 62 0 [-1] L st M) := zEv_step rfl
theorem e86_62 (ph : Bool) (d : Nat) (L st : List zV) (M : zM) : zEv ph d 86 62 L st M = zcont ph d 86 (zstep ph (zEm ph d) 47 65 67 [] L st M) := zEv_step rfl
theorem e86_65 (ph : Bool) (d : Nat) (L st : List zV) (M : zM) : zEv ph d 86 65 L st M = zcont ph d 86 (zstep ph (zEm ph d) 0 66 0 [0] L st M) := zEv_step rfl
theorem e86_66 (ph : Bool) (d : Nat) (L st : List zV) (M : zM) : zEv ph d 86 66 L st M = zcont ph d 86 (zstep ph (zEm ph d) 80 67 0 [0, 1] L st M) := zEv_step rfl
theorem e86_67 (ph : Bool) (d : Nat) (L st : List zV) (M : zM) : zEv ph d 86 67 L st M = zcont ph d 86 (zstep ph (zEm ph d) 4 68 0 [0] L st M) := zEv_step rfl
theorem e86_68 (ph : Bool) (d : Nat) (L st : List zV) (M : zM) : zEv ph d 86 68 L st M = zcont ph d 86 (zstep ph (zEm ph d) 62 71 0 [24, 1, 3, 28, 0] L st M) := zEv_step rfl
theorem e86_71 (ph : Bool) (d : Nat) (L st : List zV) (M : zM) : zEv ph d 86 71 L st M = zcont ph d 86 (zstep ph (zEm ph d) 2 72 0 [1] L st M) := zEv_step rfl
theorem e86_72 (ph : Bool) (d : Nat) (L st : List zV) (M : zM) : zEv ph d 86 72 L st M = zcont ph d 86 (zstep ph (zEm ph d) 2 73 0 [2] L st M) := zEv_step rfl
theorem e86_73 (ph : Bool) (d : Nat) (L st : List zV) (M : zM) : zEv ph d 86 73 L st M = zcont ph d 86 (zstep ph (zEm ph d) 70 76 157 [3, 1, 28] L st M) := zEv_step rfl
theorem e86_76 (ph : Bool) (d : Nat) (L st : List zV) (M : zM) : zEv ph d 86 76 L st M = zcont ph d 86 (zstep ph (zEm ph d) 40 79 88 [] L st M) := zEv_step rfl
theorem e86_79 (ph : Bool) (d : Nat) (L st : List zV) (M : zM) : zEv ph d 86 79 L st M = zcont ph d 86 (zstep ph (zEm ph d) 4 80 0 [0] L st M) := zEv_step rfl
theorem e86_80 (ph : Bool) (d : Nat) (L st : List zV) (M : zM) : zEv ph d 86 80 L st M = zcont ph d 86 (zstep ph (zEm ph d) 62 83 0 [24, 0, 1, 27, 0] L st M) := zEv_step rfl
theorem e86_83 (ph : Bool) (d : Nat) (L st : List zV) (M : zM) : zEv ph d 86 83 L st M = zcont ph d 86 (zstep ph (zEm ph d) 0 84 0 [3] L st M) := zEv_step rfl
theorem e86_84 (ph : Bool) (d : Nat) (L st : List zV) (M : zM) : zEv ph d 86 84 L st M = zcont ph d 86 (zstep ph (zEm ph d) 70 87 140 [2, 1, 27] L st M) := zEv_step rfl
theorem e86_87 (ph : Bool) (d : Nat) (L st : List zV) (M : zM) : zEv ph d 86 87 L st M = zcont ph d 86 (zstep ph (zEm ph d) 80 88 0 [0, 1] L st M) := zEv_step rfl
theorem e86_88 (ph : Bool) (d : Nat) (L st : List zV) (M : zM) : zEv ph d 86 88 L st M = zcont ph d 86 (zstep ph (zEm ph d) 4 89 0 [0] L st M) := zEv_step rfl
theorem e86_89 (ph : Bool) (d : Nat) (L st : List zV) (M : zM) : zEv ph d 86 89 L st M = zcont ph d 86 (zstep ph (zEm ph d) 62 92 0 [24, 0, 1, 27, 0] L st M) := zEv_step rfl
theorem e86_92 (ph : Bool) (d : Nat) (L st : List zV) (M : zM) : zEv ph d 86 92 L st M = zcont ph d 86 (zstep ph (zEm ph d) 70 95 141 [1, 0, 27] L st M) := zEv_step rfl
theorem e86_95 (ph : Bool) (d : Nat) (L st : List zV) (M : zM) : zEv ph d 86 95 L st M = zcont ph d 86 (zstep ph (zEm ph d) 4 96 0 [0] L st M) := zEv_step rfl
theorem e86_96 (ph : Bool) (d : Nat) (L st : List zV) (M : zM) : zEv ph d 86 96 L st M = zcont ph d 86 (zstep ph (zEm ph d) 62 99 0 [24, 0, 1, 27, 0] L st M) := zEv_step rfl
theorem e86_99 (ph : Bool) (d : Nat) (L st : List zV) (M : zM) : zEv ph d 86 99 L st M = zcont ph d 86 (zstep ph (zEm ph d) 0 100 0 [1] L st M) := zEv_step rfl
theorem e86_100 (ph : Bool) (d : Nat) (L st : List zV) (M : zM) : zEv ph d 86 100 L st M = zcont ph d 86 (zstep ph (zEm ph d) 0 102 0 [9] L st M) := zEv_step rfl
theorem e86_102 (ph : Bool) (d : Nat) (L st : List zV) (M : zM) : zEv ph d 86 102 L st M = zcont ph d 86 (zstep ph (zEm ph d) 70 105 146 [3, 1, 27] L st M) := zEv_step rfl
theorem e86_105 (ph : Bool) (d : Nat) (L st : List zV) (M : zM) : zEv ph d 86 105 L st M = zcont ph d 86 (zstep ph (zEm ph d) 5 106 0 [3] L st M) := zEv_step rfl
theorem e86_106 (ph : Bool) (d : Nat) (L st : List zV) (M : zM) : zEv ph d 86 106 L st M = zcont ph d 86 (zstep ph (zEm ph d) 2 107 0 [3] L st M) := zEv_step rfl
theorem e86_107 (ph : Bool) (d : Nat) (L st : List zV) (M : zM) : zEv ph d 86 107 L st M = zcont ph d 86 (zstep ph (zEm ph d) 0 108 0 [-1] L st M) := zEv_step rfl
theorem e86_108 (ph : Bool) (d : Nat) (L st : List zV) (M : zM) : zEv ph d 86 108 L st M = zcont ph d 86 (zstep ph (zEm ph d) 47 111 113 [] L st M) := zEv_step rfl
theorem e86_111 (ph : Bool) (d : Nat) (L st : List zV) (M : zM) : zEv ph d 86 111 L st M = zcont ph d 86 (zstep ph (zEm ph d) 0 112 0 [0] L st M) := zEv_step rfl
theorem e86_112 (ph : Bool) (d : Nat) (L st : List zV) (M : zM) : zEv ph d 86 112 L st M = zcont ph d 86 (zstep ph (zEm ph d) 80 113 0 [0, 1] L st M) := zEv_step rfl
theorem e86_113 (ph : Bool) (d : Nat) (L st : List zV) (M : zM) : zEv ph d 86 113 L st M = zcont ph d 86 (zstep ph (zEm ph d) 4 114 0 [0] L st M) := zEv_step rfl
theorem e86_114 (ph : Bool) (d : Nat) (L st : List zV) (M : zM) : zEv ph d 86 114 L st M = zcont ph d 86 (zstep ph (zEm ph d) 62 117 0 [24, 1, 3, 28, 0] L st M) := zEv_step rfl
theorem e86_117 (ph : Bool) (d : Nat) (L st : List zV) (M : zM) : zEv ph d 86 117 L st M = zcont ph d 86 (zstep ph (zEm ph d) 62 120 0 [28, 4, 5, 10, 25] L st M) := zEv_step rfl
theorem e86_120 (ph : Bool) (d : Nat) (L st : List zV) (M : zM) : zEv ph d 86 120 L st M = zcont ph d 86 (zstep ph (zEm ph d) 2 121 0 [1] L st M) := zEv_step rfl
theorem e86_121 (ph : Bool) (d : Nat) (L st : List zV) (M : zM) : zEv ph d 86 121 L st M = zcont ph d 86 (zstep ph (zEm ph d) 0 122 0 [5] L st M) := zEv_step rfl
theorem e86_122 (ph : Bool) (d : Nat) (L st : List zV) (M : zM) : zEv ph d 86 122 L st M = zcont ph d 86 (zstep ph (zEm ph d) 12 123 0 [] L st M) := zEv_step rfl
theorem e86_123 (ph : Bool) (d : Nat) (L st : List zV) (M : zM) : zEv ph d 86 123 L st M = zcont ph d 86 (zstep ph (zEm ph d) 2 124 0 [2] L st M) := zEv_step rfl
theorem e86_124 (ph : Bool) (d : Nat) (L st : List zV) (M : zM) : zEv ph d 86 124 L st M = zcont ph d 86 (zstep ph (zEm ph d) 10 125 0 [] L st M) := zEv_step rfl
theorem e86_125 (ph : Bool) (d : Nat) (L st : List zV) (M : zM) : zEv ph d 86 125 L st M = zcont ph d 86 (zstep ph (zEm ph d) 2 126 0 [3] L st M) := zEv_step rfl
theorem e86_126 (ph : Bool) (d : Nat) (L st : List zV) (M : zM) : zEv ph d 86 126 L st M = zcont ph d 86 (zstep ph (zEm ph d) 89 127 0 [] L st M) := zEv_step rfl
theorem e86_127 (ph : Bool) (d : Nat) (L st : List zV) (M : zM) : zEv ph d 86 127 L st M = zcont ph d 86 (zstep ph (zEm ph d) 0 128 0 [1] L st M) := zEv_step rfl
theorem e86_128 (ph : Bool) (d : Nat) (L st : List zV) (M : zM) : zEv ph d 86 128 L st M = zcont ph d 86 (zstep ph (zEm ph d) 80 129 0 [0, 1] L st M) := zEv_step rfl
theorem m87 (ph : Bool) (d : Nat) (a x0 p0 y0 p1 y1 p2 y2 : Int) (M : zM) : zEm ph (d + 1) 87 [(24, a, x0), (10, p0, y0), (0, p1, y1), (0, p2, y2)] M = zEv ph d 87 0 [(24, a, x0), (10, p0, y0), (0, p1, y1), (0, p2, y2), (3, 0, 0), (3, 0, 0)] [] M := rfl
theorem e87_0 (ph : Bool) (d : Nat) (L st : List zV) (M : zM) : zEv ph d 87 0 L st M = zcont ph d 87 (zstep ph (zEm ph d) 4 1 0 [0] L st M) := zEv_step rfl
theorem e87_1 (ph : Bool) (d : Nat) (L st : List zV) (M : zM) : zEv ph d 87 1 L st M = zcont ph d 87 (zstep ph (zEm ph d) 62 4 0 [24, 0, 1, 27, 0] L st M) := zEv_step rfl
theorem e87_4 (ph : Bool) (d : Nat) (L st : List zV) (M : zM) : zEv ph d 87 4 L st M = zcont ph d 87 (zstep ph (zEm ph d) 70 7 141 [1, 0, 27] L st M) := zEv_step rfl
theorem e87_7 (ph : Bool) (d : Nat) (L st : List zV) (M : zM) : zEv ph d 87 7 L st M = zcont ph d 87 (zstep ph (zEm ph d) 4 8 0 [0] L st M) := zEv_step rfl
theorem e87_8 (ph : Bool) (d : Nat) (L st : List zV) (M : zM) : zEv ph d 87 8 L st M = zcont ph d 87 (zstep ph (zEm ph d) 62 11 0 [24, 0, 1, 27, 0] L st M) := zEv_step rfl
theorem e87_11 (ph : Bool) (d : Nat) (L st : List zV) (M : zM) : zEv ph d 87 11 L st M = zcont ph d 87 (zstep ph (zEm ph d) 70 14 147 [1, 1, 27] L st M) := zEv_step rfl
theorem e87_14 (ph : Bool) (d : Nat) (L st : List zV) (M : zM) : zEv ph d 87 14 L st M = zcont ph d 87 (zstep ph (zEm ph d) 5 16 0 [4] L st M) := zEv_step rfl
theorem e87_16 (ph : Bool) (d : Nat) (L st : List zV) (M : zM) : zEv ph d 87 16 L st M = zcont ph d 87 (zstep ph (zEm ph d) 2 18 0 [4] L st M) := zEv_step rfl
theorem e87_18 (ph : Bool) (d : Nat) (L st : List zV) (M : zM) : zEv ph d 87 18 L st M = zcont ph d 87 (zstep ph (zEm ph d) 0 19 0 [-1] L st M) := zEv_step rfl
theorem e87_19 (ph : Bool) (d : Nat) (L st : List zV) (M : zM) : zEv ph d 87 19 L st M = zcont ph d 87 (zstep ph (zEm ph d) 46 22 40 [] L st M) := zEv_step rfl
theorem e87_22 (ph : Bool) (d : Nat) (L st : List zV) (M : zM) : zEv ph d 87 22 L st M = zcont ph d 87 (zstep ph (zEm ph d) 2 24 0 [4] L st M) := zEv_step rfl
theorem e87_24 (ph : Bool) (d : Nat) (L st : List zV) (M : zM) : zEv ph d 87 24 L st M = zcont ph d 87 (zstep ph (zEm ph d) 4 25 0 [1] L st M) := zEv_step rfl
theorem e87_25 (ph : Bool) (d : Nat) (L st : List zV) (M : zM) : zEv ph d 87 25 L st M = zcont ph d 87 (zstep ph (zEm ph d) 84 26 0 [] L st M) := zEv_step rfl
theorem e87_26 (ph : Bool) (d : Nat) (L st : List zV) (M : zM) : zEv ph d 87 26 L st M = zcont ph d 87 (zstep ph (zEm ph d) 49 29 40 [] L st M) := zEv_step rfl
theorem e87_29 (ph : Bool) (d : Nat) (L st : List zV) (M : zM) : zEv ph d 87 29 L st M = zcont ph d 87 (zstep ph (zEm ph d) 4 30 0 [0] L st M) := zEv_step rfl
theorem e87_30 (ph : Bool) (d : Nat) (L st : List zV) (M : zM) : zEv ph d 87 30 L st M = zcont ph d 87 (zstep ph (zEm ph d) 2 31 0 [2] L st M) := zEv_step rfl
theorem e87_31 (ph : Bool) (d : Nat) (L st : List zV) (M : zM) : zEv ph d 87 31 L st M = zcont ph d 87 (zstep ph (zEm ph d) 2 33 0 [4] L st M) := zEv_step rfl
theorem e87_33 (ph : Bool) (d : Nat) (L st : List zV) (M : zM) : zEv ph d 87 33 L st M = zcont ph d 87 (zstep ph (zEm ph d) 19 34 0 [] L st M) := zEv_step rfl
theorem e87_34 (ph : Bool) (d : Nat) (L st : List zV) (M : zM) : zEv ph d 87 34 L st M = zcont ph d 87 (zstep ph (zEm ph d) 70 37 90 [2, 1, 24] L st M) := zEv_step rfl
theorem e87_37 (ph : Bool) (d : Nat) (L st : List zV) (M : zM) : zEv ph d 87 37 L st M = zcont ph d 87 (zstep ph (zEm ph d) 41 40 42 [] L st M) := zEv_step rfl
theorem e87_40 (ph : Bool) (d : Nat) (L st : List zV) (M : zM) : zEv ph d 87 40 L st M = zcont ph d 87 (zstep ph (zEm ph d) 0 41 0 [0] L st M) := zEv_step rfl
theorem e87_41 (ph : Bool) (d : Nat) (L st : List zV) (M : zM) : zEv ph d 87 41 L st M = zcont ph d 87 (zstep ph (zEm ph d) 80 42 0 [0, 1] L st M) := zEv_step rfl
theorem e87_42 (ph : Bool) (d : Nat) (L st : List zV) (M : zM) : zEv ph d 87 42 L st M = zcont ph d 87 (zstep ph (zEm ph d) 4 43 0 [0] L st M) := zEv_step rfl
theorem e87_43 (ph : Bool) (d : Nat) (L st : List zV) (M : zM) : zEv ph d 87 43 L st M = zcont ph d 87 (zstep ph (zEm ph d) 62 46 0 [24, 0, 1, 27, 0] L st M) := zEv_step rfl
theorem e87_46 (ph : Bool) (d : Nat) (L st : List zV) (M : zM) : zEv ph d 87 46 L st M = zcont ph d 87 (zstep ph (zEm ph d) 70 49 141 [1, 0, 27] L st M) := zEv_step rfl
theorem e87_49 (ph : Bool) (d : Nat) (L st : List zV) (M : zM) : zEv ph d 87 49 L st M = zcont ph d 87 (zstep ph (zEm ph d) 4 50 0 [0] L st M) := zEv_step rfl
theorem e87_50 (ph : Bool) (d : Nat) (L st : List zV) (M : zM) : zEv ph d 87 50 L st M = zcont ph d 87 (zstep ph (zEm ph d) 62 53 0 [24, 0, 1, 27, 0] L st M) := zEv_step rfl
theorem e87_53 (ph : Bool) (d : Nat) (L st : List zV) (M : zM) : zEv ph d 87 53 L st M = zcont ph d 87 (zstep ph (zEm ph d) 0 54 0 [0] L st M) := zEv_step rfl
theorem e87_54 (ph : Bool) (d : Nat) (L st : List zV) (M : zM) : zEv ph d 87 54 L st M = zcont ph d 87 (zstep ph (zEm ph d) 2 55 0 [3] L st M) := zEv_step rfl
theorem e87_55 (ph : Bool) (d : Nat) (L st : List zV) (M : zM) : zEv ph d 87 55 L st M = zcont ph d 87 (zstep ph (zEm ph d) 70 58 146 [3, 1, 27] L st M) := zEv_step rfl
theorem e87_58 (ph : Bool) (d : Nat) (L st : List zV) (M : zM) : zEv ph d 87 58 L st M = zcont ph d 87 (zstep ph (zEm ph d) 5 60 0 [5] L st M) := zEv_step rfl
theorem e87_60 (ph : Bool) (d : Nat) (L st : List zV) (M : zM) : zEv ph d 87 60 L st M = zcont ph d 87 (zstep ph (zEm ph d) 2 62 0 [5] L st M) := zEv_step rfl
theorem e87_62 (ph : Bool) (d : Nat) (L st : List zV) (M : zM) : zEv ph d 87 62 L st M = zcont ph d 87 (zstep ph (zEm ph d) 0 63 0 [-1] L st M) := zEv_step rfl
theorem e87_63 (ph : Bool) (d : Nat) (L st : List zV) (M : zM) : zEv ph d 87 63 L st M = zcont ph d 87 (zstep ph (zEm ph d) 47 66 68 [] L st M) := zEv_step rfl
theorem e87_66 (ph : Bool) (d : Nat) (L st : List zV) (M : zM) : zEv ph d 87 66 L st M = zcont ph d 87 (zstep ph (zEm ph d) 0 67 0 [0] L st M) := zEv_step rfl
theorem e87_67 (ph : Bool) (d : Nat) (L st : List zV) (M : zM) : zEv ph d 87 67 L st M = zcont ph d 87 (zstep ph (zEm ph d) 80 68 0 [0, 1] L st M) := zEv_step rfl
theorem e87_68 (ph : Bool) (d : Nat) (L st : List zV) (M : zM) : zEv ph d 87 68 L st M = zcont ph d 87 (zstep ph (zEm ph d) 4 69 0 [1] L st M) := zEv_step rfl
theorem e87_69 (ph : Bool) (d : Nat) (L st : List zV) (M : zM) : zEv ph d 87 69 L st M = zcont ph d 87 (zstep ph (zEm ph d) 2 71 0 [4] L st M) := zEv_step rfl
theorem e87_71 (ph : Bool) (d : Nat) (L st : List zV) (M : zM) : zEv ph d 87 71 L st M = zcont ph d 87 (zstep ph (zEm ph d) 2 73 0 [5] L st M) := zEv_step rfl
theorem e87_73 (ph : Bool) (d : Nat) (L st : List zV) (M : zM) : zEv ph d 87 73 L st M = zcont ph d 87 (zstep ph (zEm ph d) 89 74 0 [] L st M) := zEv_step rfl
theorem e87_74 (ph : Bool) (d : Nat) (L st : List zV) (M : zM) : zEv ph d 87 74 L st M = zcont ph d 87 (zstep ph (zEm ph d) 0 75 0 [1] L st M) := zEv_step rfl
theorem e87_75 (ph : Bool) (d : Nat) (L st : List zV) (M : zM) : zEv ph d 87 75 L st M = zcont ph d 87 (zstep ph (zEm ph d) 80 76 0 [0, 1] L st M) := zEv_step rfl
theorem m88 (ph : Bool) (d : Nat) (a x0 : Int) (M : zM) : zEm ph (d + 1) 88 [(24, a, x0)] M = zEv ph d 88 0 [(24, a, x0)] [] M := rfl
theorem e88_0 (ph : Bool) (d : Nat) (L st : List zV) (M : zM) : zEv ph d 88 0 L st M = zcont ph d 88 (zstep ph (zEm ph d) 4 1 0 [0] L st M) := zEv_step rfl
theorem e88_1 (ph : Bool) (d : Nat) (L st : List zV) (M : zM) : zEv ph d 88 1 L st M = zcont ph d 88 (zstep ph (zEm ph d) 0 3 0 [16] L st M) := zEv_step rfl
theorem e88_3 (ph : Bool) (d : Nat) (L st : List zV) (M : zM) : zEv ph d 88 3 L st M = zcont ph d 88 (zstep ph (zEm ph d) 70 6 90 [2, 1, 24] L st M) := zEv_step rfl
theorem e88_6 (ph : Bool) (d : Nat) (L st : List zV) (M : zM) : zEv ph d 88 6 L st M = zcont ph d 88 (zstep ph (zEm ph d) 41 9 11 [] L st M) := zEv_step rfl
theorem e88_9 (ph : Bool) (d : Nat) (L st : List zV) (M : zM) : zEv ph d 88 9 L st M = zcont ph d 88 (zstep ph (zEm ph d) 0 10 0 [0] L st M) := zEv_step rfl
theorem e88_10 (ph : Bool) (d : Nat) (L st : List zV) (M : zM) : zEv ph d 88 10 L st M = zcont ph d 88 (zstep ph (zEm ph d) 80 11 0 [0, 1] L st M) := zEv_step rfl
theorem e88_11 (ph : Bool) (d : Nat) (L st : List zV) (M : zM) : zEv ph d 88 11 L st M = zcont ph d 88 (zstep ph (zEm ph d) 4 12 0 [0] L st M) := zEv_step rfl
theorem e88_12 (ph : Bool) (d : Nat) (L st : List zV) (M : zM) : zEv ph d 88 12 L st M = zcont ph d 88 (zstep ph (zEm ph d) 62 15 0 [24, 0, 1, 27, 0] L st M) := zEv_step rfl
theorem e88_15 (ph : Bool) (d : Nat) (L st : List zV) (M : zM) : zEv ph d 88 15 L st M = zcont ph d 88 (zstep ph (zEm ph d) 70 18 141 [1, 0, 27] L st M) := zEv_step rfl
theorem e88_18 (ph : Bool) (d : Nat) (L st : List zV) (M : zM) : zEv ph d 88 18 L st M = zcont ph d 88 (zstep ph (zEm ph d) 4 19 0 [0] L st M) := zEv_step rfl
theorem e88_19 (ph : Bool) (d : Nat) (L st : List zV) (M : zM) : zEv ph d 88 19 L st M = zcont ph d 88 (zstep ph (zEm ph d) 62 22 0 [24, 1, 3, 28, 0] L st M) := zEv_step rfl
theorem e88_22 (ph : Bool) (d : Nat) (L st : List zV) (M : zM) : zEv ph d 88 22 L st M = zcont ph d 88 (zstep ph (zEm ph d) 4 23 0 [0] L st M) := zEv_step rfl
theorem e88_23 (ph : Bool) (d : Nat) (L st : List zV) (M : zM) : zEv ph d 88 23 L st M = zcont ph d 88 (zstep ph (zEm ph d) 62 26 0 [24, 0, 1, 27, 0] L st M) := zEv_step rfl
theorem e88_26 (ph : Bool) (d : Nat) (L st : List zV) (M : zM) : zEv ph d 88 26 L st M = zcont ph d 88 (zstep ph (zEm ph d) 0 27 0 [1] L st M) := zEv_step rfl
theorem e88_27 (ph : Bool) (d : Nat) (L st : List zV) (M : zM) : zEv ph d 88 27 L st M = zcont ph d 88 (zstep ph (zEm ph d) 0 29 0 [9] L st M) := zEv_step rfl
theorem e88_29 (ph : Bool) (d : Nat) (L st : List zV) (M : zM) : zEv ph d 88 29 L st M = zcont ph d 88 (zstep ph (zEm ph d) 70 32 146 [3, 1, 27] L st M) := zEv_step rfl
theorem e88_32 (ph : Bool) (d : Nat) (L st : List zV) (M : zM) : zEv ph d 88 32 L st M = zcont ph d 88 (zstep ph (zEm ph d) 65 35 0 [28, 10] L st M) := zEv_step rfl
theorem e88_35 (ph : Bool) (d : Nat) (L st : List zV) (M : zM) : zEv ph d 88 35 L st M = zcont ph d 88 (zstep ph (zEm ph d) 4 36 0 [0] L st M) := zEv_step rfl
theorem e88_36 (ph : Bool) (d : Nat) (L st : List zV) (M : zM) : zEv ph d 88 36 L st M = zcont ph d 88 (zstep ph (zEm ph d) 62 39 0 [24, 1, 3, 28, 0] L st M) := zEv_step rfl
theorem e88_39 (ph : Bool) (d : Nat) (L st : List zV) (M : zM) : zEv ph d 88 39 L st M = zcont ph d 88 (zstep ph (zEm ph d) 60 42 0 [28, 10] L st M) := zEv_step rfl
theorem e88_42 (ph : Bool) (d : Nat) (L st : List zV) (M : zM) : zEv ph d 88 42 L st M = zcont ph d 88 (zstep ph (zEm ph d) 0 43 0 [-1] L st M) := zEv_step rfl
theorem e88_43 (ph : Bool) (d : Nat) (L st : List zV) (M : zM) : zEv ph d 88 43 L st M = zcont ph d 88 (zstep ph (zEm ph d) 46 46 50 [] L st M) := zEv_step rfl
theorem e88_46 (ph : Bool) (d : Nat) (L st : List zV) (M : zM) : zEv ph d 88 46 L st M = zcont ph d 88 (zstep ph (zEm ph d) 0 47 0 [1] L st M) := zEv_step rfl
theorem e88_47 (ph : Bool) (d : Nat) (L st : List zV) (M : zM) : zEv ph d 88 47 L st M = zcont ph d 88 (zstep ph (zEm ph d) 52 50 51 [] L st M) := zEv_step rfl
theorem e88_50 (ph : Bool) (d : Nat) (L st : List zV) (M : zM) : zEv ph d 88 50 L st M = zcont ph d 88 (zstep ph (zEm ph d) 0 51 0 [0] L st M) := zEv_step rfl
theorem e88_51 (ph : Bool) (d : Nat) (L st : List zV) (M : zM) : zEv ph d 88 51 L st M = zcont ph d 88 (zstep ph (zEm ph d) 80 52 0 [0, 1] L st M) := zEv_step rfl
theorem m89 (ph : Bool) (d : Nat) (a x0 : Int) (M : zM) : zEm ph (d + 1) 89 [(24, a, x0)] M = zEv ph d 89 0 [(24, a, x0)] [] M := rfl
theorem e89_0 (ph : Bool) (d : Nat) (L st : List zV) (M : zM) : zEv ph d 89 0 L st M = zcont ph d 89 (zstep ph (zEm ph d) 4 1 0 [0] L st M) := zEv_step rfl
theorem e89_1 (ph : Bool) (d : Nat) (L st : List zV) (M : zM) : zEv ph d 89 1 L st M = zcont ph d 89 (zstep ph (zEm ph d) 0 3 0 [32] L st M) := zEv_step rfl
theorem e89_3 (ph : Bool) (d : Nat) (L st : List zV) (M : zM) : zEv ph d 89 3 L st M = zcont ph d 89 (zstep ph (zEm ph d) 70 6 90 [2, 1, 24] L st M) := zEv_step rfl
theorem e89_6 (ph : Bool) (d : Nat) (L st : List zV) (M : zM) : zEv ph d 89 6 L st M = zcont ph d 89 (zstep ph (zEm ph d) 41 9 11 [] L st M) := zEv_step rfl
theorem e89_9 (ph : Bool) (d : Nat) (L st : List zV) (M : zM) : zEv ph d 89 9 L st M = zcont ph d 89 (zstep ph (zEm ph d) 0 10 0 [0] L st M) := zEv_step rfl
theorem e89_10 (ph : Bool) (d : Nat) (L st : List zV) (M : zM) : zEv ph d 89 10 L st M = zcont ph d 89 (zstep ph (zEm ph d) 80 11 0 [0, 1] L st M) := zEv_step rfl
theorem e89_11 (ph : Bool) (d : Nat) (L st : List zV) (M : zM) : zEv ph d 89 11 L st M = zcont ph d 89 (zstep ph (zEm ph d) 4 12 0 [0] L st M) := zEv_step rfl
theorem e89_12 (ph : Bool) (d : Nat) (L st : List zV) (M : zM) : zEv ph d 89 12 L st M = zcont ph d 89 (zstep ph (zEm ph d) 62 15 0 [24, 0, 1, 27, 0] L st M) := zEv_step rfl
theorem e89_15 (ph : Bool) (d : Nat) (L st : List zV) (M : zM) : zEv ph d 89 15 L st M = zcont ph d 89 (zstep ph (zEm ph d) 70 18 141 [1, 0, 27] L st M) := zEv_step rfl
theorem e89_18 (ph : Bool) (d : Nat) (L st : List zV) (M : zM) : zEv ph d 89 18 L st M = zcont ph d 89 (zstep ph (zEm ph d) 4 19 0 [0] L st M) := zEv_step rfl
theorem e89_19 (ph : Bool) (d : Nat) (L st : List zV) (M : zM) : zEv ph d 89 19 L st M = zcont ph d 89 (zstep ph (zEm ph d) 62 22 0 [24, 1, 3, 28, 0] L st M) := zEv_step rfl
theorem e89_22 (ph : Bool) (d : Nat) (L st : List zV) (M : zM) : zEv ph d 89 22 L st M = zcont ph d 89 (zstep ph (zEm ph d) 4 23 0 [0] L st M) := zEv_step rfl
theorem e89_23 (ph : Bool) (d : Nat) (L st : List zV) (M : zM) : zEv ph d 89 23 L st M = zcont ph d 89 (zstep ph (zEm ph d) 62 26 0 [24, 0, 1, 27, 0] L st M) := zEv_step rfl
theorem e89_26 (ph : Bool) (d : Nat) (L st : List zV) (M : zM) : zEv ph d 89 26 L st M = zcont ph d 89 (zstep ph (zEm ph d) 0 27 0 [0] L st M) := zEv_step rfl
theorem e89_27 (ph : Bool) (d : Nat) (L st : List zV) (M : zM) : zEv ph d 89 27 L st M = zcont ph d 89 (zstep ph (zEm ph d) 0 29 0 [9] L st M) := zEv_step rfl
theorem e89_29 (ph : Bool) (d : Nat) (L st : List zV) (M : zM) : zEv ph d 89 29 L st M = zcont ph d 89 (zstep ph (zEm ph d) 70 32 146 [3, 1, 27] L st M) := zEv_step rfl
theorem e89_32 (ph : Bool) (d : Nat) (L st : List zV) (M : zM) : zEv ph d 89 32 L st M = zcont ph d 89 (zstep ph (zEm ph d) 65 35 0 [28, 11] L st M) := zEv_step rfl
theorem e89_35 (ph : Bool) (d : Nat) (L st : List zV) (M : zM) : zEv ph d 89 35 L st M = zcont ph d 89 (zstep ph (zEm ph d) 4 36 0 [0] L st M) := zEv_step rfl
theorem e89_36 (ph : Bool) (d : Nat) (L st : List zV) (M : zM) : zEv ph d 89 36 L st M = zcont ph d 89 (zstep ph (zEm ph d) 62 39 0 [24, 1, 3, 28, 0] L st M) := zEv_step rfl
theorem e89_39 (ph : Bool) (d : Nat) (L st : List zV) (M : zM) : zEv ph d 89 39 L st M = zcont ph d 89 (zstep ph (zEm ph d) 60 42 0 [28, 11] L st M) := zEv_step rfl
theorem e89_42 (ph : Bool) (d : Nat) (L st : List zV) (M : zM) : zEv ph d 89 42 L st M = zcont ph d 89 (zstep ph (zEm ph d) 0 43 0 [-1] L st M) := zEv_step rfl
theorem e89_43 (ph : Bool) (d : Nat) (L st : List zV) (M : zM) : zEv ph d 89 43 L st M = zcont ph d 89 (zstep ph (zEm ph d) 46 46 50 [] L st M) := zEv_step rfl
theorem e89_46 (ph : Bool) (d : Nat) (L st : List zV) (M : zM) : zEv ph d 89 46 L st M = zcont ph d 89 (zstep ph (zEm ph d) 0 47 0 [1] L st M) := zEv_step rfl
theorem e89_47 (ph : Bool) (d : Nat) (L st : List zV) (M : zM) : zEv ph d 89 47 L st M = zcont ph d 89 (zstep ph (zEm ph d) 52 50 51 [] L st M) := zEv_step rfl
theorem e89_50 (ph : Bool) (d : Nat) (L st : List zV) (M : zM) : zEv ph d 89 50 L st M = zcont ph d 89 (zstep ph (zEm ph d) 0 51 0 [0] L st M) := zEv_step rfl
theorem e89_51 (ph : Bool) (d : Nat) (L st : List zV) (M : zM) : zEv ph d 89 51 L st M = zcont ph d 89 (zstep ph (zEm ph d) 80 52 0 [0, 1] L st M) := zEv_step rfl
theorem m196 (ph : Bool) (d : Nat) (a x0 : Int) (M : zM) : zEm ph (d + 1) 196 [(30, a, x0)] M = zEv ph d 196 0 [(30, a, x0)] [] M := rfl
theorem e196_0 (ph : Bool) (d : Nat) (L st : List zV) (M : zM) : zEv ph d 196 0 L st M = zcont ph d 196 (zstep ph (zEm ph d) 4 1 0 [0] L st M) := zEv_step rfl
theorem e196_1 (ph : Bool) (d : Nat) (L st : List zV) (M : zM) : zEv ph d 196 1 L st M = zcont ph d 196 (zstep ph (zEm ph d) 0 2 0 [0] L st M) := zEv_step rfl
theorem e196_2 (ph : Bool) (d : Nat) (L st : List zV) (M : zM) : zEv ph d 196 2 L st M = zcont ph d 196 (zstep ph (zEm ph d) 0 3 0 [5] L st M) := zEv_step rfl
theorem e196_3 (ph : Bool) (d : Nat) (L st : List zV) (M : zM) : zEv ph d 196 3 L st M = zcont ph d 196 (zstep ph (zEm ph d) 70 6 192 [3, 1, 30] L st M) := zEv_step rfl
theorem e196_6 (ph : Bool) (d : Nat) (L st : List zV) (M : zM) : zEv ph d 196 6 L st M = zcont ph d 196 (zstep ph (zEm ph d) 40 9 22 [] L st M) := zEv_step rfl
theorem e196_9 (ph : Bool) (d : Nat) (L st : List zV) (M : zM) : zEv ph d 196 9 L st M = zcont ph d 196 (zstep ph (zEm ph d) 4 10 0 [0] L st M) := zEv_step rfl
theorem e196_10 (ph : Bool) (d : Nat) (L st : List zV) (M : zM) : zEv ph d 196 10 L st M = zcont ph d 196 (zstep ph (zEm ph d) 4 11 0 [0] L st M) := zEv_step rfl
theorem e196_11 (ph : Bool) (d : Nat) (L st : List zV) (M : zM) : zEv ph d 196 11 L st M = zcont ph d 196 (zstep ph (zEm ph d) 62 14 0 [30, 15, 3, 10, 75] L st M) := zEv_step rfl
theorem e196_14 (ph : Bool) (d : Nat) (L st : List zV) (M : zM) : zEv ph d 196 14 L st M = zcont ph d 196 (zstep ph (zEm ph d) 0 15 0 [0] L st M) := zEv_step rfl
theorem e196_15 (ph : Bool) (d : Nat) (L st : List zV) (M : zM) : zEv ph d 196 15 L st M = zcont ph d 196 (zstep ph (zEm ph d) 85 16 0 [] L st M) := zEv_step rfl
theorem e196_16 (ph : Bool) (d : Nat) (L st : List zV) (M : zM) : zEv ph d 196 16 L st M = zcont ph d 196 (zstep ph (zEm ph d) 70 19 189 [2, 1, 30] L st M) := zEv_step rfl
theorem e196_19 (ph : Bool) (d : Nat) (L st : List zV) (M : zM) : zEv ph d 196 19 L st M = zcont ph d 196 (zstep ph (zEm ph d) 41 22 24 [] L st M) := zEv_step rfl
theorem e196_22 (ph : Bool) (d : Nat) (L st : List zV) (M : zM) : zEv ph d 196 22 L st M = zcont ph d 196 (zstep ph (zEm ph d) 0 23 0 [0] L st M) := zEv_step rfl
theorem e196_23 (ph : Bool) (d : Nat) (L st : List zV) (M : zM) : zEv ph d 196 23 L st M = zcont ph d 196 (zstep ph (zEm ph d) 80 24 0 [0, 1] L st M) := zEv_step rfl
theorem e196_24 (ph : Bool) (d : Nat) (L st : List zV) (M : zM) : zEv ph d 196 24 L st M = zcont ph d 196 (zstep ph (zEm ph d) 4 25 0 [0] L st M) := zEv_step rfl
theorem e196_25 (ph : Bool) (d : Nat) (L st : List zV) (M : zM) : zEv ph d 196 25 L st M = zcont ph d 196 (zstep ph (zEm ph d) 62 28 0 [30, 15, 3, 10, 75] L st M) := zEv_step rfl
theorem e196_28 (ph : Bool) (d : Nat) (L st : List zV) (M : zM) : zEv ph d 196 28 L st M = zcont ph d 196 (zstep ph (zEm ph d) 0 29 0 [0] L st M) := zEv_step rfl
theorem e196_29 (ph : Bool) (d : Nat) (L st : List zV) (M : zM) : zEv ph d 196 29 L st M = zcont ph d 196 (zstep ph (zEm ph d) 37 30 0 [] L st M) := zEv_step rfl
theorem e196_30 (ph : Bool) (d : Nat) (L st : List zV) (M : zM) : zEv ph d 196 30 L st M = zcont ph d 196 (zstep ph (zEm ph d) 85 31 0 [] L st M) := zEv_step rfl
theorem e196_31 (ph : Bool) (d : Nat) (L st : List zV) (M : zM) : zEv ph d 196 31 L st M = zcont ph d 196 (zstep ph (zEm ph d) 0 32 0 [1] L st M) := zEv_step rfl
theorem e196_32 (ph : Bool) (d : Nat) (L st : List zV) (M : zM) : zEv ph d 196 32 L st M = zcont ph d 196 (zstep ph (zEm ph d) 10 33 0 [] L st M) := zEv_step rfl
theorem e196_33 (ph : Bool) (d : Nat) (L st : List zV) (M : zM) : zEv ph d 196 33 L st M = zcont ph d 196 (zstep ph (zEm ph d) 89 34 0 [] L st M) := zEv_step rfl
theorem e196_34 (ph : Bool) (d : Nat) (L st : List zV) (M : zM) : zEv ph d 196 34 L st M = zcont ph d 196 (zstep ph (zEm ph d) 0 35 0 [1] L st M) := zEv_step rfl
theorem e196_35 (ph : Bool) (d : Nat) (L st : List zV) (M : zM) : zEv ph d 196 35 L st M = zcont ph d 196 (zstep ph (zEm ph d) 80 36 0 [0, 1] L st M) := zEv_step rfl
theorem m198 (ph : Bool) (d : Nat) (a x0 : Int) (M : zM) : zEm ph (d + 1) 198 [(30, a, x0)] M = zEv ph d 198 0 [(30, a, x0)] [] M := rfl
theorem e198_0 (ph : Bool) (d : Nat) (L st : List zV) (M : zM) : zEv ph d 198 0 L st M = zcont ph d 198 (zstep ph (zEm ph d) 4 1 0 [0] L st M) := zEv_step rfl
theorem e198_1 (ph : Bool) (d : Nat) (L st : List zV) (M : zM) : zEv ph d 198 1 L st M = zcont ph d 198 (zstep ph (zEm ph d) 0 2 0 [2] L st M) := zEv_step rfl
theorem e198_2 (ph : Bool) (d : Nat) (L st : List zV) (M : zM) : zEv ph d 198 2 L st M = zcont ph d 198 (zstep ph (zEm ph d) 0 3 0 [5] L st M) := zEv_step rfl
theorem e198_3 (ph : Bool) (d : Nat) (L st : List zV) (M : zM) : zEv ph d 198 3 L st M = zcont ph d 198 (zstep ph (zEm ph d) 70 6 192 [3, 1, 30] L st M) := zEv_step rfl
theorem e198_6 (ph : Bool) (d : Nat) (L st : List zV) (M : zM) : zEv ph d 198 6 L st M = zcont ph d 198 (zstep ph (zEm ph d) 40 9 25 [] L st M) := zEv_step rfl
theorem e198_9 (ph : Bool) (d : Nat) (L st : List zV) (M : zM) : zEv ph d 198 9 L st M = zcont ph d 198 (zstep ph (zEm ph d) 4 10 0 [0] L st M) := zEv_step rfl
theorem e198_10 (ph : Bool) (d : Nat) (L st : List zV) (M : zM) : zEv ph d 198 10 L st M = zcont ph d 198 (zstep ph (zEm ph d) 0 12 0 [15] L st M) := zEv_step rfl
theorem e198_12 (ph : Bool) (d : Nat) (L st : List zV) (M : zM) : zEv ph d 198 12 L st M = zcont ph d 198 (zstep ph (zEm ph d) 4 13 0 [0] L st M) := zEv_step rfl
theorem e198_13 (ph : Bool) (d : Nat) (L st : List zV) (M : zM) : zEv ph d 198 13 L st M = zcont ph d 198 (zstep ph (zEm ph d) 62 16 0 [30, 15, 3, 10, 75] L st M) := zEv_step rfl
theorem e198_16 (ph : Bool) (d : Nat) (L st : List zV) (M : zM) : zEv ph d 198 16 L st M = zcont ph d 198 (zstep ph (zEm ph d) 0 17 0 [2] L st M) := zEv_step rfl
theorem e198_17 (ph : Bool) (d : Nat) (L st : List zV) (M : zM) : zEv ph d 198 17 L st M = zcont ph d 198 (zstep ph (zEm ph d) 85 18 0 [] L st M) := zEv_step rfl
theorem e198_18 (ph : Bool) (d : Nat) (L st : List zV) (M : zM) : zEv ph d 198 18 L st M = zcont ph d 198 (zstep ph (zEm ph d) 10 19 0 [] L st M) := zEv_step rfl
theorem e198_19 (ph : Bool) (d : Nat) (L st : List zV) (M : zM) : zEv ph d 198 19 L st M = zcont ph d 198 (zstep ph (zEm ph d) 70 22 189 [2, 1, 30] L st M) := zEv_step rfl
theorem e198_22 (ph : Bool) (d : Nat) (L st : List zV) (M : zM) : zEv ph d 198 22 L st M = zcont ph d 198 (zstep ph (zEm ph d) 41 25 27 [] L st M) := zEv_step rfl
theorem e198_25 (ph : Bool) (d : Nat) (L st : List zV) (M : zM) : zEv ph d 198 25 L st M = zcont ph d 198 (zstep ph (zEm ph d) 0 26 0 [0] L st M) := zEv_step rfl
theorem e198_26 (ph : Bool) (d : Nat) (L st : List zV) (M : zM) : zEv ph d 198 26 L st M = zcont ph d 198 (zstep ph (zEm ph d) 80 27 0 [0, 1] L st M) := zEv_step rfl
theorem e198_27 (ph : Bool) (d : Nat) (L st : List zV) (M : zM) : zEv ph d 198 27 L st M = zcont ph d 198 (zstep ph (zEm ph d) 4 28 0 [0] L st M) := zEv_step rfl
theorem e198_28 (ph : Bool) (d : Nat) (L st : List zV) (M : zM) : zEv ph d 198 28 L st M = zcont ph d 198 (zstep ph (zEm ph d) 62 31 0 [30, 15, 3, 10, 75] L st M) := zEv_step rfl
theorem e198_31 (ph : Bool) (d : Nat) (L st : List zV) (M : zM) : zEv ph d 198 31 L st M = zcont ph d 198 (zstep ph (zEm ph d) 0 32 0 [2] L st M) := zEv_step rfl
theorem e198_32 (ph : Bool) (d : Nat) (L st : List zV) (M : zM) : zEv ph d 198 32 L st M = zcont ph d 198 (zstep ph (zEm ph d) 37 33 0 [] L st M) := zEv_step rfl
theorem e198_33 (ph : Bool) (d : Nat) (L st : List zV) (M : zM) : zEv ph d 198 33 L st M = zcont ph d 198 (zstep ph (zEm ph d) 85 34 0 [] L st M) := zEv_step rfl
theorem e198_34 (ph : Bool) (d : Nat) (L st : List zV) (M : zM) : zEv ph d 198 34 L st M = zcont ph d 198 (zstep ph (zEm ph d) 0 35 0 [1] L st M) := zEv_step rfl
theorem e198_35 (ph : Bool) (d : Nat) (L st : List zV) (M : zM) : zEv ph d 198 35 L st M = zcont ph d 198 (zstep ph (zEm ph d) 10 36 0 [] L st M) := zEv_step rfl
theorem e198_36 (ph : Bool) (d : Nat) (L st : List zV) (M : zM) : zEv ph d 198 36 L st M = zcont ph d 198 (zstep ph (zEm ph d) 89 37 0 [] L st M) := zEv_step rfl
theorem e198_37 (ph : Bool) (d : Nat) (L st : List zV) (M : zM) : zEv ph d 198 37 L st M = zcont ph d 198 (zstep ph (zEm ph d) 0 38 0 [1] L st M) := zEv_step rfl
theorem e198_38 (ph : Bool) (d : Nat) (L st : List zV) (M : zM) : zEv ph d 198 38 L st M = zcont ph d 198 (zstep ph (zEm ph d) 80 39 0 [0, 1] L st M) := zEv_step rfl
theorem m197 (ph : Bool) (d : Nat) (a x0 : Int) (M : zM) : zEm ph (d + 1) 197 [(30, a, x0)] M = zEv ph d 197 0 [(30, a, x0), (3, 0, 0)] [] M := rfl
theorem e197_0 (ph : Bool) (d : Nat) (L st : List zV) (M : zM) : zEv ph d 197 0 L st M = zcont ph d 197 (zstep ph (zEm ph d) 4 1 0 [0] L st M) := zEv_step rfl
theorem e197_1 (ph : Bool) (d : Nat) (L st : List zV) (M : zM) : zEv ph d 197 1 L st M = zcont ph d 197 (zstep ph (zEm ph d) 0 2 0 [1] L st M) := zEv_step rfl
theorem e197_2 (ph : Bool) (d : Nat) (L st : List zV) (M : zM) : zEv ph d 197 2 L st M = zcont ph d 197 (zstep ph (zEm ph d) 0 4 0 [10] L st M) := zEv_step rfl
theorem e197_4 (ph : Bool) (d : Nat) (L st : List zV) (M : zM) : zEv ph d 197 4 L st M = zcont ph d 197 (zstep ph (zEm ph d) 70 7 192 [3, 1, 30] L st M) := zEv_step rfl
theorem e197_7 (ph : Bool) (d : Nat) (L st : List zV) (M : zM) : zEv ph d 197 7 L st M = zcont ph d 197 (zstep ph (zEm ph d) 41 10 12 [] L st M) := zEv_step rfl
theorem e197_10 (ph : Bool) (d : Nat) (L st : List zV) (M : zM) : zEv ph d 197 10 L st M = zcont ph d 197 (zstep ph (zEm ph d) 0 11 0 [0] L st M) := zEv_step rfl
theorem e197_11 (ph : Bool) (d : Nat) (L st : List zV) (M : zM) : zEv ph d 197 11 L st M = zcont ph d 197 (zstep ph (zEm ph d) 80 12 0 [0, 1] L st M) := zEv_step rfl
theorem e197_12 (ph : Bool) (d : Nat) (L st : List zV) (M : zM) : zEv ph d 197 12 L st M = zcont ph d 197 (zstep ph (zEm ph d) 4 13 0 [0] L st M) := zEv_step rfl
theorem e197_13 (ph : Bool) (d : Nat) (L st : List zV) (M : zM) : zEv ph d 197 13 L st M = zcont ph d 197 (zstep ph (zEm ph d) 62 16 0 [30, 15, 3, 10, 75] L st M) := zEv_step rfl
theorem e197_16 (ph : Bool) (d : Nat) (L st : List zV) (M : zM) : zEv ph d 197 16 L st M = zcont ph d 197 (zstep ph (zEm ph d) 0 17 0 [1] L st M) := zEv_step rfl
theorem e197_17 (ph : Bool) (d : Nat) (L st : List zV) (M : zM) : zEv ph d 197 17 L st M = zcont ph d 197 (zstep ph (zEm ph d) 85 18 0 [] L st M) := zEv_step rfl
theorem e197_18 (ph : Bool) (d : Nat) (L st : List zV) (M : zM) : zEv ph d 197 18 L st M = zcont ph d 197 (zstep ph (zEm ph d) 5 19 0 [1] L st M) := zEv_step rfl
theorem e197_19 (ph : Bool) (d : Nat) (L st : List zV) (M : zM) : zEv ph d 197 19 L st M = zcont ph d 197 (zstep ph (zEm ph d) 4 20 0 [0] L st M) := zEv_step rfl
theorem e197_20 (ph : Bool) (d : Nat) (L st : List zV) (M : zM) : zEv ph d 197 20 L st M = zcont ph d 197 (zstep ph (zEm ph d) 0 21 0 [5] L st M) := zEv_step rfl
theorem e197_21 (ph : Bool) (d : Nat) (L st : List zV) (M : zM) : zEv ph d 197 21 L st M = zcont ph d 197 (zstep ph (zEm ph d) 2 22 0 [1] L st M) := zEv_step rfl
theorem e197_22 (ph : Bool) (d : Nat) (L st : List zV) (M : zM) : zEv ph d 197 22 L st M = zcont ph d 197 (zstep ph (zEm ph d) 10 23 0 [] L st M) := zEv_step rfl
theorem e197_23 (ph : Bool) (d : Nat) (L st : List zV) (M : zM) : zEv ph d 197 23 L st M = zcont ph d 197 (zstep ph (zEm ph d) 70 26 189 [2, 1, 30] L st M) := zEv_step rfl
theorem e197_26 (ph : Bool) (d : Nat) (L st : List zV) (M : zM) : zEv ph d 197 26 L st M = zcont ph d 197 (zstep ph (zEm ph d) 40 29 51 [] L st M) := zEv_step rfl
theorem e197_29 (ph : Bool) (d : Nat) (L st : List zV) (M : zM) : zEv ph d 197 29 L st M = zcont ph d 197 (zstep ph (zEm ph d) 4 30 0 [0] L st M) := zEv_step rfl
theorem e197_30 (ph : Bool) (d : Nat) (L st : List zV) (M : zM) : zEv ph d 197 30 L st M = zcont ph d 197 (zstep ph (zEm ph d) 0 32 0 [9] L st M) := zEv_step rfl
theorem e197_32 (ph : Bool) (d : Nat) (L st : List zV) (M : zM) : zEv ph d 197 32 L st M = zcont ph d 197 (zstep ph (zEm ph d) 2 33 0 [1] L st M) := zEv_step rfl
theorem e197_33 (ph : Bool) (d : Nat) (L st : List zV) (M : zM) : zEv ph d 197 33 L st M = zcont ph d 197 (zstep ph (zEm ph d) 10 34 0 [] L st M) := zEv_step rfl
theorem e197_34 (ph : Bool) (d : Nat) (L st : List zV) (M : zM) : zEv ph d 197 34 L st M = zcont ph d 197 (zstep ph (zEm ph d) 4 35 0 [0] L st M) := zEv_step rfl
theorem e197_35 (ph : Bool) (d : Nat) (L st : List zV) (M : zM) : zEv ph d 197 35 L st M = zcont ph d 197 (zstep ph (zEm ph d) 0 36 0 [0] L st M) := zEv_step rfl
theorem e197_36 (ph : Bool) (d : Nat) (L st : List zV) (M : zM) : zEv ph d 197 36 L st M = zcont ph d 197 (zstep ph (zEm ph d) 4 37 0 [0] L st M) := zEv_step rfl
theorem e197_37 (ph : Bool) (d : Nat) (L st : List zV) (M : zM) : zEv ph d 197 37 L st M = zcont ph d 197 (zstep ph (zEm ph d) 62 40 0 [30, 15, 3, 10, 75] L st M) := zEv_step rfl
theorem e197_40 (ph : Bool) (d : Nat) (L st : List zV) (M : zM) : zEv ph d 197 40 L st M = zcont ph d 197 (zstep ph (zEm ph d) 0 41 0 [0] L st M) := zEv_step rfl
theorem e197_41 (ph : Bool) (d : Nat) (L st : List zV) (M : zM) : zEv ph d 197 41 L st M = zcont ph d 197 (zstep ph (zEm ph d) 85 42 0 [] L st M) := zEv_step rfl
theorem e197_42 (ph : Bool) (d : Nat) (L st : List zV) (M : zM) : zEv ph d 197 42 L st M = zcont ph d 197 (zstep ph (zEm ph d) 70 45 191 [3, 1, 30] L st M) := zEv_step rfl
theorem e197_45 (ph : Bool) (d : Nat) (L st : List zV) (M : zM) : zEv ph d 197 45 L st M = zcont ph d 197 (zstep ph (zEm ph d) 70 48 193 [3, 1, 30] L st M) := zEv_step rfl
theorem e197_48 (ph : Bool) (d : Nat) (L st : List zV) (M : zM) : zEv ph d 197 48 L st M = zcont ph d 197 (zstep ph (zEm ph d) 41 51 53 [] L st M) := zEv_step rfl
theorem e197_51 (ph : Bool) (d : Nat) (L st : List zV) (M : zM) : zEv ph d 197 51 L st M = zcont ph d 197 (zstep ph (zEm ph d) 0 52 0 [0] L st M) := zEv_step rfl
theorem e197_52 (ph : Bool) (d : Nat) (L st : List zV) (M : zM) : zEv ph d 197 52 L st M = zcont ph d 197 (zstep ph (zEm ph d) 80 53 0 [0, 1] L st M) := zEv_step rfl
theorem e197_53 (ph : Bool) (d : Nat) (L st : List zV) (M : zM) : zEv ph d 197 53 L st M = zcont ph d 197 (zstep ph (zEm ph d) 4 54 0 [0] L st M) := zEv_step rfl
theorem e197_54 (ph : Bool) (d : Nat) (L st : List zV) (M : zM) : zEv ph d 197 54 L st M = zcont ph d 197 (zstep ph (zEm ph d) 0 56 0 [19] L st M) := zEv_step rfl
theorem e197_56 (ph : Bool) (d : Nat) (L st : List zV) (M : zM) : zEv ph d 197 56 L st M = zcont ph d 197 (zstep ph (zEm ph d) 2 57 0 [1] L st M) := zEv_step rfl
theorem e197_57 (ph : Bool) (d : Nat) (L st : List zV) (M : zM) : zEv ph d 197 57 L st M = zcont ph d 197 (zstep ph (zEm ph d) 10 58 0 [] L st M) := zEv_step rfl
theorem e197_58 (ph : Bool) (d : Nat) (L st : List zV) (M : zM) : zEv ph d 197 58 L st M = zcont ph d 197 (zstep ph (zEm ph d) 4 59 0 [0] L st M) := zEv_step rfl
theorem e197_59 (ph : Bool) (d : Nat) (L st : List zV) (M : zM) : zEv ph d 197 59 L st M = zcont ph d 197 (zstep ph (zEm ph d) 0 60 0 [0] L st M) := zEv_step rfl
theorem e197_60 (ph : Bool) (d : Nat) (L st : List zV) (M : zM) : zEv ph d 197 60 L st M = zcont ph d 197 (zstep ph (zEm ph d) 0 62 0 [20] L st M) := zEv_step rfl
theorem e197_62 (ph : Bool) (d : Nat) (L st : List zV) (M : zM) : zEv ph d 197 62 L st M = zcont ph d 197 (zstep ph (zEm ph d) 70 65 183 [3, 1, 30] L st M) := zEv_step rfl
theorem e197_65 (ph : Bool) (d : Nat) (L st : List zV) (M : zM) : zEv ph d 197 65 L st M = zcont ph d 197 (zstep ph (zEm ph d) 70 68 193 [3, 1, 30] L st M) := zEv_step rfl
theorem e197_68 (ph : Bool) (d : Nat) (L st : List zV) (M : zM) : zEv ph d 197 68 L st M = zcont ph d 197 (zstep ph (zEm ph d) 40 71 89 [] L st M) := zEv_step rfl
theorem e197_71 (ph : Bool) (d : Nat) (L st : List zV) (M : zM) : zEv ph d 197 71 L st M = zcont ph d 197 (zstep ph (zEm ph d) 4 72 0 [0] L st M) := zEv_step rfl
theorem e197_72 (ph : Bool) (d : Nat) (L st : List zV) (M : zM) : zEv ph d 197 72 L st M = zcont ph d 197 (zstep ph (zEm ph d) 0 74 0 [29] L st M) := zEv_step rfl
theorem e197_74 (ph : Bool) (d : Nat) (L st : List zV) (M : zM) : zEv ph d 197 74 L st M = zcont ph d 197 (zstep ph (zEm ph d) 2 75 0 [1] L st M) := zEv_step rfl
theorem e197_75 (ph : Bool) (d : Nat) (L st : List zV) (M : zM) : zEv ph d 197 75 L st M = zcont ph d 197 (zstep ph (zEm ph d) 10 76 0 [] L st M) := zEv_step rfl
theorem e197_76 (ph : Bool) (d : Nat) (L st : List zV) (M : zM) : zEv ph d 197 76 L st M = zcont ph d 197 (zstep ph (zEm ph d) 4 77 0 [0] L st M) := zEv_step rfl
theorem e197_77 (ph : Bool) (d : Nat) (L st : List zV) (M : zM) : zEv ph d 197 77 L st M = zcont ph d 197 (zstep ph (zEm ph d) 0 78 0 [0] L st M) := zEv_step rfl
theorem e197_78 (ph : Bool) (d : Nat) (L st : List zV) (M : zM) : zEv ph d 197 78 L st M = zcont ph d 197 (zstep ph (zEm ph d) 0 80 0 [99] L st M) := zEv_step rfl
theorem e197_80 (ph : Bool) (d : Nat) (L st : List zV) (M : zM) : zEv ph d 197 80 L st M = zcont ph d 197 (zstep ph (zEm ph d) 70 83 183 [3, 1, 30] L st M) := zEv_step rfl
theorem e197_83 (ph : Bool) (d : Nat) (L st : List zV) (M : zM) : zEv ph d 197 83 L st M = zcont ph d 197 (zstep ph (zEm ph d) 70 86 193 [3, 1, 30] L st M) := zEv_step rfl
theorem e197_86 (ph : Bool) (d : Nat) (L st : List zV) (M : zM) : zEv ph d 197 86 L st M = zcont ph d 197 (zstep ph (zEm ph d) 41 89 91 [] L st M) := zEv_step rfl
theorem e197_89 (ph : Bool) (d : Nat) (L st : List zV) (M : zM) : zEv ph d 197 89 L st M = zcont ph d 197 (zstep ph (zEm ph d) 0 90 0 [0] L st M) := zEv_step rfl
theorem e197_90 (ph : Bool) (d : Nat) (L st : List zV) (M : zM) : zEv ph d 197 90 L st M = zcont ph d 197 (zstep ph (zEm ph d) 80 91 0 [0, 1] L st M) := zEv_step rfl
theorem e197_91 (ph : Bool) (d : Nat) (L st : List zV) (M : zM) : zEv ph d 197 91 L st M = zcont ph d 197 (zstep ph (zEm ph d) 4 92 0 [0] L st M) := zEv_step rfl
theorem e197_92 (ph : Bool) (d : Nat) (L st : List zV) (M : zM) : zEv ph d 197 92 L st M = zcont ph d 197 (zstep ph (zEm ph d) 0 94 0 [25] L st M) := zEv_step rfl
theorem e197_94 (ph : Bool) (d : Nat) (L st : List zV) (M : zM) : zEv ph d 197 94 L st M = zcont ph d 197 (zstep ph (zEm ph d) 70 97 179 [2, 1, 30] L st M) := zEv_step rfl
theorem e197_97 (ph : Bool) (d : Nat) (L st : List zV) (M : zM) : zEv ph d 197 97 L st M = zcont ph d 197 (zstep ph (zEm ph d) 40 100 117 [] L st M) := zEv_step rfl
theorem e197_100 (ph : Bool) (d : Nat) (L st : List zV) (M : zM) : zEv ph d 197 100 L st M = zcont ph d 197 (zstep ph (zEm ph d) 4 101 0 [0] L st M) := zEv_step rfl
theorem e197_101 (ph : Bool) (d : Nat) (L st : List zV) (M : zM) : zEv ph d 197 101 L st M = zcont ph d 197 (zstep ph (zEm ph d) 62 104 0 [30, 15, 3, 10, 75] L st M) := zEv_step rfl
theorem e197_104 (ph : Bool) (d : Nat) (L st : List zV) (M : zM) : zEv ph d 197 104 L st M = zcont ph d 197 (zstep ph (zEm ph d) 0 106 0 [39] L st M) := zEv_step rfl
theorem e197_106 (ph : Bool) (d : Nat) (L st : List zV) (M : zM) : zEv ph d 197 106 L st M = zcont ph d 197 (zstep ph (zEm ph d) 37 107 0 [] L st M) := zEv_step rfl
theorem e197_107 (ph : Bool) (d : Nat) (L st : List zV) (M : zM) : zEv ph d 197 107 L st M = zcont ph d 197 (zstep ph (zEm ph d) 85 108 0 [] L st M) := zEv_step rfl
theorem e197_108 (ph : Bool) (d : Nat) (L st : List zV) (M : zM) : zEv ph d 197 108 L st M = zcont ph d 197 (zstep ph (zEm ph d) 0 109 0 [1] L st M) := zEv_step rfl
theorem e197_109 (ph : Bool) (d : Nat) (L st : List zV) (M : zM) : zEv ph d 197 109 L st M = zcont ph d 197 (zstep ph (zEm ph d) 2 110 0 [1] L st M) := zEv_step rfl
theorem e197_110 (ph : Bool) (d : Nat) (L st : List zV) (M : zM) : zEv ph d 197 110 L st M = zcont ph d 197 (zstep ph (zEm ph d) 19 111 0 [] L st M) := zEv_step rfl
theorem e197_111 (ph : Bool) (d : Nat) (L st : List zV) (M : zM) : zEv ph d 197 111 L st M = zcont ph d 197 (zstep ph (zEm ph d) 17 112 0 [] L st M) := zEv_step rfl
theorem e197_112 (ph : Bool) (d : Nat) (L st : List zV) (M : zM) : zEv ph d 197 112 L st M = zcont ph d 197 (zstep ph (zEm ph d) 89 113 0 [] L st M) := zEv_step rfl
theorem e197_113 (ph : Bool) (d : Nat) (L st : List zV) (M : zM) : zEv ph d 197 113 L st M = zcont ph d 197 (zstep ph (zEm ph d) 4 114 0 [0] L st M) := zEv_step rfl
theorem e197_114 (ph : Bool) (d : Nat) (L st : List zV) (M : zM) : zEv ph d 197 114 L st M = zcont ph d 197 (zstep ph (zEm ph d) 70 117 176 [1, 0, 30] L st M) := zEv_step rfl
theorem e197_117 (ph : Bool) (d : Nat) (L st : List zV) (M : zM) : zEv ph d 197 117 L st M = zcont ph d 197 (zstep ph (zEm ph d) 4 118 0 [0] L st M) := zEv_step rfl
theorem e197_118 (ph : Bool) (d : Nat) (L st : List zV) (M : zM) : zEv ph d 197 118 L st M = zcont ph d 197 (zstep ph (zEm ph d) 62 121 0 [30, 15, 3, 10, 75] L st M) := zEv_step rfl
theorem e197_121 (ph : Bool) (d : Nat) (L st : List zV) (M : zM) : zEv ph d 197 121 L st M = zcont ph d 197 (zstep ph (zEm ph d) 0 122 0 [1] L st M) := zEv_step rfl
theorem e197_122 (ph : Bool) (d : Nat) (L st : List zV) (M : zM) : zEv ph d 197 122 L st M = zcont ph d 197 (zstep ph (zEm ph d) 37 123 0 [] L st M) := zEv_step rfl
theorem e197_123 (ph : Bool) (d : Nat) (L st : List zV) (M : zM) : zEv ph d 197 123 L st M = zcont ph d 197 (zstep ph (zEm ph d) 85 124 0 [] L st M) := zEv_step rfl
theorem e197_124 (ph : Bool) (d : Nat) (L st : List zV) (M : zM) : zEv ph d 197 124 L st M = zcont ph d 197 (zstep ph (zEm ph d) 0 125 0 [1] L st M) := zEv_step rfl
theorem e197_125 (ph : Bool) (d : Nat) (L st : List zV) (M : zM) : zEv ph d 197 125 L st M = zcont ph d 197 (zstep ph (zEm ph d) 10 126 0 [] L st M) := zEv_step rfl
theorem e197_126 (ph : Bool) (d : Nat) (L st : List zV) (M : zM) : zEv ph d 197 126 L st M = zcont ph d 197 (zstep ph (zEm ph d) 89 127 0 [] L st M) := zEv_step rfl
theorem e197_127 (ph : Bool) (d : Nat) (L st : List zV) (M : zM) : zEv ph d 197 127 L st M = zcont ph d 197 (zstep ph (zEm ph d) 0 128 0 [1] L st M) := zEv_step rfl
theorem e197_128 (ph : Bool) (d : Nat) (L st : List zV) (M : zM) : zEv ph d 197 128 L st M = zcont ph d 197 (zstep ph (zEm ph d) 80 129 0 [0, 1] L st M) := zEv_step rfl
theorem m199 (ph : Bool) (d : Nat) (a x0 : Int) (M : zM) : zEm ph (d + 1) 199 [(30, a, x0)] M = zEv ph d 199 0 [(30, a, x0), (3, 0, 0), (3, 0, 0)] [] M := rfl
theorem e199_0 (ph : Bool) (d : Nat) (L st : List zV) (M : zM) : zEv ph d 199 0 L st M = zcont ph d 199 (zstep ph (zEm ph d) 4 1 0 [0] L st M) := zEv_step rfl
theorem e199_1 (ph : Bool) (d : Nat) (L st : List zV) (M : zM) : zEv ph d 199 1 L st M = zcont ph d 199 (zstep ph (zEm ph d) 70 4 176 [1, 0, 30] L st M) := zEv_step rfl
theorem e199_4 (ph : Bool) (d : Nat) (L st : List zV) (M : zM) : zEv ph d 199 4 L st M = zcont ph d 199 (zstep ph (zEm ph d) 4 5 0 [0] L st M) := zEv_step rfl
theorem e199_5 (ph : Bool) (d : Nat) (L st : List zV) (M : zM) : zEv ph d 199 5 L st M = zcont ph d 199 (zstep ph (zEm ph d) 0 6 0 [5] L st M) := zEv_step rfl
theorem e199_6 (ph : Bool) (d : Nat) (L st : List zV) (M : zM) : zEv ph d 199 6 L st M = zcont ph d 199 (zstep ph (zEm ph d) 4 7 0 [0] L st M) := zEv_step rfl
theorem e199_7 (ph : Bool) (d : Nat) (L st : List zV) (M : zM) : zEv ph d 199 7 L st M = zcont ph d 199 (zstep ph (zEm ph d) 62 10 0 [30, 15, 3, 10, 75] L st M) := zEv_step rfl
theorem e199_10 (ph : Bool) (d : Nat) (L st : List zV) (M : zM) : zEv ph d 199 10 L st M = zcont ph d 199 (zstep ph (zEm ph d) 0 11 0 [1] L st M) := zEv_step rfl
theorem e199_11 (ph : Bool) (d : Nat) (L st : List zV) (M : zM) : zEv ph d 199 11 L st M = zcont ph d 199 (zstep ph (zEm ph d) 85 12 0 [] L st M) := zEv_step rfl
theorem e199_12 (ph : Bool) (d : Nat) (L st : List zV) (M : zM) : zEv ph d 199 12 L st M = zcont ph d 199 (zstep ph (zEm ph d) 70 15 191 [3, 1, 30] L st M) := zEv_step rfl
theorem e199_15 (ph : Bool) (d : Nat) (L st : List zV) (M : zM) : zEv ph d 199 15 L st M = zcont ph d 199 (zstep ph (zEm ph d) 41 18 20 [] L st M) := zEv_step rfl
theorem e199_18 (ph : Bool) (d : Nat) (L st : List zV) (M : zM) : zEv ph d 199 18 L st M = zcont ph d 199 (zstep ph (zEm ph d) 0 19 0 [0] L st M) := zEv_step rfl
theorem e199_19 (ph : Bool) (d : Nat) (L st : List zV) (M : zM) : zEv ph d 199 19 L st M = zcont ph d 199 (zstep ph (zEm ph d) 80 20 0 [0, 1] L st M) := zEv_step rfl
theorem e199_20 (ph : Bool) (d : Nat) (L st : List zV) (M : zM) : zEv ph d 199 20 L st M = zcont ph d 199 (zstep ph (zEm ph d) 4 21 0 [0] L st M) := zEv_step rfl
theorem e199_21 (ph : Bool) (d : Nat) (L st : List zV) (M : zM) : zEv ph d 199 21 L st M = zcont ph d 199 (zstep ph (zEm ph d) 60 24 0 [30, 13] L st M) := zEv_step rfl
theorem e199_24 (ph : Bool) (d : Nat) (L st : List zV) (M : zM) : zEv ph d 199 24 L st M = zcont ph d 199 (zstep ph (zEm ph d) 5 25 0 [1] L st M) := zEv_step rfl
theorem e199_25 (ph : Bool) (d : Nat) (L st : List zV) (M : zM) : zEv ph d 199 25 L st M = zcont ph d 199 (zstep ph (zEm ph d) 4 26 0 [0] L st M) := zEv_step rfl
theorem e199_26 (ph : Bool) (d : Nat) (L st : List zV) (M : zM) : zEv ph d 199 26 L st M = zcont ph d 199 (zstep ph (zEm ph d) 0 28 0 [15] L st M) := zEv_step rfl
theorem e199_28 (ph : Bool) (d : Nat) (L st : List zV) (M : zM) : zEv ph d 199 28 L st M = zcont ph d 199 (zstep ph (zEm ph d) 4 29 0 [0] L st M) := zEv_step rfl
theorem e199_29 (ph : Bool) (d : Nat) (L st : List zV) (M : zM) : zEv ph d 199 29 L st M = zcont ph d 199 (zstep ph (zEm ph d) 62 32 0 [30, 15, 3, 10, 75] L st M) := zEv_step rfl
theorem e199_32 (ph : Bool) (d : Nat) (L st : List zV) (M : zM) : zEv ph d 199 32 L st M = zcont ph d 199 (zstep ph (zEm ph d) 0 33 0 [2] L st M) := zEv_step rfl
theorem e199_33 (ph : Bool) (d : Nat) (L st : List zV) (M : zM) : zEv ph d 199 33 L st M = zcont ph d 199 (zstep ph (zEm ph d) 85 34 0 [] L st M) := zEv_step rfl
theorem e199_34 (ph : Bool) (d : Nat) (L st : List zV) (M : zM) : zEv ph d 199 34 L st M = zcont ph d 199 (zstep ph (zEm ph d) 70 37 190 [3, 1, 30] L st M) := zEv_step rfl
theorem e199_37 (ph : Bool) (d : Nat) (L st : List zV) (M : zM) : zEv ph d 199 37 L st M = zcont ph d 199 (zstep ph (zEm ph d) 41 40 42 [] L st M) := zEv_step rfl
theorem e199_40 (ph : Bool) (d : Nat) (L st : List zV) (M : zM) : zEv ph d 199 40 L st M = zcont ph d 199 (zstep ph (zEm ph d) 0 41 0 [0] L st M) := zEv_step rfl
theorem e199_41 (ph : Bool) (d : Nat) (L st : List zV) (M : zM) : zEv ph d 199 41 L st M = zcont ph d 199 (zstep ph (zEm ph d) 80 42 0 [0, 1] L st M) := zEv_step rfl
theorem e199_42 (ph : Bool) (d : Nat) (L st : List zV) (M : zM) : zEv ph d 199 42 L st M = zcont ph d 199 (zstep ph (zEm ph d) 4 43 0 [0] L st M) := zEv_step rfl
theorem e199_43 (ph : Bool) (d : Nat) (L st : List zV) (M : zM) : zEv ph d 199 43 L st M = zcont ph d 199 (zstep ph (zEm ph d) 60 46 0 [30, 13] L st M) := zEv_step rfl
theorem e199_46 (ph : Bool) (d : Nat) (L st : List zV) (M : zM) : zEv ph d 199 46 L st M = zcont ph d 199 (zstep ph (zEm ph d) 5 47 0 [2] L st M) := zEv_step rfl
theorem e199_47 (ph : Bool) (d : Nat) (L st : List zV) (M : zM) : zEv ph d 199 47 L st M = zcont ph d 199 (zstep ph (zEm ph d) 4 48 0 [0] L st M) := zEv_step rfl
theorem e199_48 (ph : Bool) (d : Nat) (L st : List zV) (M : zM) : zEv ph d 199 48 L st M = zcont ph d 199 (zstep ph (zEm ph d) 62 51 0 [30, 15, 3, 10, 75] L st M) := zEv_step rfl
theorem e199_51 (ph : Bool) (d : Nat) (L st : List zV) (M : zM) : zEv ph d 199 51 L st M = zcont ph d 199 (zstep ph (zEm ph d) 0 53 0 [40] L st M) := zEv_step rfl
theorem e199_53 (ph : Bool) (d : Nat) (L st : List zV) (M : zM) : zEv ph d 199 53 L st M = zcont ph d 199 (zstep ph (zEm ph d) 2 54 0 [2] L st M) := zEv_step rfl
theorem e199_54 (ph : Bool) (d : Nat) (L st : List zV) (M : zM) : zEv ph d 199 54 L st M = zcont ph d 199 (zstep ph (zEm ph d) 10 55 0 [] L st M) := zEv_step rfl
theorem e199_55 (ph : Bool) (d : Nat) (L st : List zV) (M : zM) : zEv ph d 199 55 L st M = zcont ph d 199 (zstep ph (zEm ph d) 85 56 0 [] L st M) := zEv_step rfl
theorem e199_56 (ph : Bool) (d : Nat) (L st : List zV) (M : zM) : zEv ph d 199 56 L st M = zcont ph d 199 (zstep ph (zEm ph d) 4 57 0 [0] L st M) := zEv_step rfl
theorem e199_57 (ph : Bool) (d : Nat) (L st : List zV) (M : zM) : zEv ph d 199 57 L st M = zcont ph d 199 (zstep ph (zEm ph d) 62 60 0 [30, 15, 3, 10, 75] L st M) := zEv_step rfl
theorem e199_60 (ph : Bool) (d : Nat) (L st : List zV) (M : zM) : zEv ph d 199 60 L st M = zcont ph d 199 (zstep ph (zEm ph d) 0 62 0 [45] L st M) := zEv_step rfl
theorem e199_62 (ph : Bool) (d : Nat) (L st : List zV) (M : zM) : zEv ph d 199 62 L st M = zcont ph d 199 (zstep ph (zEm ph d) 2 63 0 [2] L st M) := zEv_step rfl
theorem e199_63 (ph : Bool) (d : Nat) (L st : List zV) (M : zM) : zEv ph d 199 63 L st M = zcont ph d 199 (zstep ph (zEm ph d) 10 64 0 [] L st M) := zEv_step rfl
theorem e199_64 (ph : Bool) (d : Nat) (L st : List zV) (M : zM) : zEv ph d 199 64 L st M = zcont ph d 199 (zstep ph (zEm ph d) 85 65 0 [] L st M) := zEv_step rfl
theorem e199_65 (ph : Bool) (d : Nat) (L st : List zV) (M : zM) : zEv ph d 199 65 L st M = zcont ph d 199 (zstep ph (zEm ph d) 17 66 0 [] L st M) := zEv_step rfl
theorem e199_66 (ph : Bool) (d : Nat) (L st : List zV) (M : zM) : zEv ph d 199 66 L st M = zcont ph d 199 (zstep ph (zEm ph d) 2 67 0 [1] L st M) := zEv_step rfl
theorem e199_67 (ph : Bool) (d : Nat) (L st : List zV) (M : zM) : zEv ph d 199 67 L st M = zcont ph d 199 (zstep ph (zEm ph d) 70 70 169 [2, 1, -1] L st M) := zEv_step rfl
theorem e199_70 (ph : Bool) (d : Nat) (L st : List zV) (M : zM) : zEv ph d 199 70 L st M = zcont ph d 199 (zstep ph (zEm ph d) 40 73 79 [] L st M) := zEv_step rfl
theorem e199_73 (ph : Bool) (d : Nat) (L st : List zV) (M : zM) : zEv ph d 199 73 L st M = zcont ph d 199 (zstep ph (zEm ph d) 4 74 0 [0] L st M) := zEv_step rfl
theorem e199_74 (ph : Bool) (d : Nat) (L st : List zV) (M : zM) : zEv ph d 199 74 L st M = zcont ph d 199 (zstep ph (zEm ph d) 0 75 0 [3] L st M) := zEv_step rfl
theorem e199_75 (ph : Bool) (d : Nat) (L st : List zV) (M : zM) : zEv ph d 199 75 L st M = zcont ph d 199 (zstep ph (zEm ph d) 70 78 182 [2, 1, 30] L st M) := zEv_step rfl
theorem e199_78 (ph : Bool) (d : Nat) (L st : List zV) (M : zM) : zEv ph d 199 78 L st M = zcont ph d 199 (zstep ph (zEm ph d) 80 79 0 [0, 1] L st M) := zEv_step rfl
theorem e199_79 (ph : Bool) (d : Nat) (L st : List zV) (M : zM) : zEv ph d 199 79 L st M = zcont ph d 199 (zstep ph (zEm ph d) 4 80 0 [0] L st M) := zEv_step rfl
theorem e199_80 (ph : Bool) (d : Nat) (L st : List zV) (M : zM) : zEv ph d 199 80 L st M = zcont ph d 199 (zstep ph (zEm ph d) 70 83 176 [1, 0, 30] L st M) := zEv_step rfl
theorem e199_83 (ph : Bool) (d : Nat) (L st : List zV) (M : zM) : zEv ph d 199 83 L st M = zcont ph d 199 (zstep ph (zEm ph d) 4 84 0 [0] L st M) := zEv_step rfl
theorem e199_84 (ph : Bool) (d : Nat) (L st : List zV) (M : zM) : zEv ph d 199 84 L st M = zcont ph d 199 (zstep ph (zEm ph d) 70 87 195 [1, 1, 30] L st M) := zEv_step rfl
theorem e199_87 (ph : Bool) (d : Nat) (L st : List zV) (M : zM) : zEv ph d 199 87 L st M = zcont ph d 199 (zstep ph (zEm ph d) 41 90 92 [] L st M) := zEv_step rfl
theorem e199_90 (ph : Bool) (d : Nat) (L st : List zV) (M : zM) : zEv ph d 199 90 L st M = zcont ph d 199 (zstep ph (zEm ph d) 0 91 0 [0] L st M) := zEv_step rfl
theorem e199_91 (ph : Bool) (d : Nat) (L st : List zV) (M : zM) : zEv ph d 199 91 L st M = zcont ph d 199 (zstep ph (zEm ph d) 80 92 0 [0, 1] L st M) := zEv_step rfl
theorem e199_92 (ph : Bool) (d : Nat) (L st : List zV) (M : zM) : zEv ph d 199 92 L st M = zcont ph d 199 (zstep ph (zEm ph d) 4 93 0 [0] L st M) := zEv_step rfl
theorem e199_93 (ph : Bool) (d : Nat) (L st : List zV) (M : zM) : zEv ph d 199 93 L st M = zcont ph d 199 (zstep ph (zEm ph d) 62 96 0 [30, 15, 3, 10, 75] L st M) := zEv_step rfl
theorem e199_96 (ph : Bool) (d : Nat) (L st : List zV) (M : zM) : zEv ph d 199 96 L st M = zcont ph d 199 (zstep ph (zEm ph d) 4 97 0 [0] L st M) := zEv_step rfl
theorem e199_97 (ph : Bool) (d : Nat) (L st : List zV) (M : zM) : zEv ph d 199 97 L st M = zcont ph d 199 (zstep ph (zEm ph d) 60 100 0 [30, 13] L st M) := zEv_step rfl
theorem e199_100 (ph : Bool) (d : Nat) (L st : List zV) (M : zM) : zEv ph d 199 100 L st M = zcont ph d 199 (zstep ph (zEm ph d) 41 103 108 [] L st M) := zEv_step rfl
theorem e199_103 (ph : Bool) (d : Nat) (L st : List zV) (M : zM) : zEv ph d 199 103 L st M = zcont ph d 199 (zstep ph (zEm ph d) 0 105 0 [40] L st M) := zEv_step rfl
theorem e199_105 (ph : Bool) (d : Nat) (L st : List zV) (M : zM) : zEv ph d 199 105 L st M = zcont ph d 199 (zstep ph (zEm ph d) 52 108 110 [] L st M) := zEv_step rfl
theorem e199_108 (ph : Bool) (d : Nat) (L st : List zV) (M : zM) : zEv ph d 199 108 L st M = zcont ph d 199 (zstep ph (zEm ph d) 0 110 0 [45] L st M) := zEv_step rfl
theorem e199_110 (ph : Bool) (d : Nat) (L st : List zV) (M : zM) : zEv ph d 199 110 L st M = zcont ph d 199 (zstep ph (zEm ph d) 2 111 0 [2] L st M) := zEv_step rfl
theorem e199_111 (ph : Bool) (d : Nat) (L st : List zV) (M : zM) : zEv ph d 199 111 L st M = zcont ph d 199 (zstep ph (zEm ph d) 10 112 0 [] L st M) := zEv_step rfl
theorem e199_112 (ph : Bool) (d : Nat) (L st : List zV) (M : zM) : zEv ph d 199 112 L st M = zcont ph d 199 (zstep ph (zEm ph d) 37 113 0 [] L st M) := zEv_step rfl
theorem e199_113 (ph : Bool) (d : Nat) (L st : List zV) (M : zM) : zEv ph d 199 113 L st M = zcont ph d 199 (zstep ph (zEm ph d) 85 114 0 [] L st M) := zEv_step rfl
theorem e199_114 (ph : Bool) (d : Nat) (L st : List zV) (M : zM) : zEv ph d 199 114 L st M = zcont ph d 199 (zstep ph (zEm ph d) 0 115 0 [1] L st M) := zEv_step rfl
theorem e199_115 (ph : Bool) (d : Nat) (L st : List zV) (M : zM) : zEv ph d 199 115 L st M = zcont ph d 199 (zstep ph (zEm ph d) 2 116 0 [1] L st M) := zEv_step rfl
theorem e199_116 (ph : Bool) (d : Nat) (L st : List zV) (M : zM) : zEv ph d 199 116 L st M = zcont ph d 199 (zstep ph (zEm ph d) 19 117 0 [] L st M) := zEv_step rfl
theorem e199_117 (ph : Bool) (d : Nat) (L st : List zV) (M : zM) : zEv ph d 199 117 L st M = zcont ph d 199 (zstep ph (zEm ph d) 17 118 0 [] L st M) := zEv_step rfl
theorem e199_118 (ph : Bool) (d : Nat) (L st : List zV) (M : zM) : zEv ph d 199 118 L st M = zcont ph d 199 (zstep ph (zEm ph d) 89 119 0 [] L st M) := zEv_step rfl
theorem e199_119 (ph : Bool) (d : Nat) (L st : List zV) (M : zM) : zEv ph d 199 119 L st M = zcont ph d 199 (zstep ph (zEm ph d) 4 120 0 [0] L st M) := zEv_step rfl
theorem e199_120 (ph : Bool) (d : Nat) (L st : List zV) (M : zM) : zEv ph d 199 120 L st M = zcont ph d 199 (zstep ph (zEm ph d) 70 123 176 [1, 0, 30] L st M) := zEv_step rfl
theorem e199_123 (ph : Bool) (d : Nat) (L st : List zV) (M : zM) : zEv ph d 199 123 L st M = zcont ph d 199 (zstep ph (zEm ph d) 0 124 0 [1] L st M) := zEv_step rfl
theorem e199_124 (ph : Bool) (d : Nat) (L st : List zV) (M : zM) : zEv ph d 199 124 L st M = zcont ph d 199 (zstep ph (zEm ph d) 80 125 0 [0, 1] L st M) := zEv_step rfl
theorem m200 (ph : Bool) (d : Nat) (a x0 : Int) (M : zM) : zEm ph (d + 1) 200 [(30, a, x0)] M = zEv ph d 200 0 [(30, a, x0), (3, 0, 0)] [] M := rfl
theorem e200_0 (ph : Bool) (d : Nat) (L st : List zV) (M : zM) : zEv ph d 200 0 L st M = zcont ph d 200 (zstep ph (zEm ph d) 4 1 0 [0] L st M) := zEv_step rfl
theorem e200_1 (ph : Bool) (d : Nat) (L st : List zV) (M : zM) : zEv ph d 200 1 L st M = zcont ph d 200 (zstep ph (zEm ph d) 70 4 176 [1, 0, 30] L st M) := zEv_step rfl
theorem e200_4 (ph : Bool) (d : Nat) (L st : List zV) (M : zM) : zEv ph d 200 4 L st M = zcont ph d 200 (zstep ph (zEm ph d) 4 5 0 [0] L st M) := zEv_step rfl
theorem e200_5 (ph : Bool) (d : Nat) (L st : List zV) (M : zM) : zEv ph d 200 5 L st M = zcont ph d 200 (zstep ph (zEm ph d) 0 7 0 [15] L st M) := zEv_step rfl
theorem e200_7 (ph : Bool) (d : Nat) (L st : List zV) (M : zM) : zEv ph d 200 7 L st M = zcont ph d 200 (zstep ph (zEm ph d) 4 8 0 [0] L st M) := zEv_step rfl
theorem e200_8 (ph : Bool) (d : Nat) (L st : List zV) (M : zM) : zEv ph d 200 8 L st M = zcont ph d 200 (zstep ph (zEm ph d) 62 11 0 [30, 15, 3, 10, 75] L st M) := zEv_step rfl
theorem e200_11 (ph : Bool) (d : Nat) (L st : List zV) (M : zM) : zEv ph d 200 11 L st M = zcont ph d 200 (zstep ph (zEm ph d) 0 12 0 [2] L st M) := zEv_step rfl
theorem e200_12 (ph : Bool) (d : Nat) (L st : List zV) (M : zM) : zEv ph d 200 12 L st M = zcont ph d 200 (zstep ph (zEm ph d) 85 13 0 [] L st M) := zEv_step rfl
theorem e200_13 (ph : Bool) (d : Nat) (L st : List zV) (M : zM) : zEv ph d 200 13 L st M = zcont ph d 200 (zstep ph (zEm ph d) 70 16 191 [3, 1, 30] L st M) := zEv_step rfl
theorem e200_16 (ph : Bool) (d : Nat) (L st : List zV) (M : zM) : zEv ph d 200 16 L st M = zcont ph d 200 (zstep ph (zEm ph d) 41 19 21 [] L st M) := zEv_step rfl
theorem e200_19 (ph : Bool) (d : Nat) (L st : List zV) (M : zM) : zEv ph d 200 19 L st M = zcont ph d 200 (zstep ph (zEm ph d) 0 20 0 [0] L st M) := zEv_step rfl
theorem e200_20 (ph : Bool) (d : Nat) (L st : List zV) (M : zM) : zEv ph d 200 20 L st M = zcont ph d 200 (zstep ph (zEm ph d) 80 21 0 [0, 1] L st M) := zEv_step rfl
theorem e200_21 (ph : Bool) (d : Nat) (L st : List zV) (M : zM) : zEv ph d 200 21 L st M = zcont ph d 200 (zstep ph (zEm ph d) 0 23 0 [50] L st M) := zEv_step rfl
theorem e200_23 (ph : Bool) (d : Nat) (L st : List zV) (M : zM) : zEv ph d 200 23 L st M = zcont ph d 200 (zstep ph (zEm ph d) 0 24 0 [5] L st M) := zEv_step rfl
theorem e200_24 (ph : Bool) (d : Nat) (L st : List zV) (M : zM) : zEv ph d 200 24 L st M = zcont ph d 200 (zstep ph (zEm ph d) 4 25 0 [0] L st M) := zEv_step rfl
theorem e200_25 (ph : Bool) (d : Nat) (L st : List zV) (M : zM) : zEv ph d 200 25 L st M = zcont ph d 200 (zstep ph (zEm ph d) 60 28 0 [30, 13] L st M) := zEv_step rfl
theorem e200_28 (ph : Bool) (d : Nat) (L st : List zV) (M : zM) : zEv ph d 200 28 L st M = zcont ph d 200 (zstep ph (zEm ph d) 12 29 0 [] L st M) := zEv_step rfl
theorem e200_29 (ph : Bool) (d : Nat) (L st : List zV) (M : zM) : zEv ph d 200 29 L st M = zcont ph d 200 (zstep ph (zEm ph d) 10 30 0 [] L st M) := zEv_step rfl
theorem e200_30 (ph : Bool) (d : Nat) (L st : List zV) (M : zM) : zEv ph d 200 30 L st M = zcont ph d 200 (zstep ph (zEm ph d) 5 31 0 [1] L st M) := zEv_step rfl
theorem e200_31 (ph : Bool) (d : Nat) (L st : List zV) (M : zM) : zEv ph d 200 31 L st M = zcont ph d 200 (zstep ph (zEm ph d) 4 32 0 [0] L st M) := zEv_step rfl
theorem e200_32 (ph : Bool) (d : Nat) (L st : List zV) (M : zM) : zEv ph d 200 32 L st M = zcont ph d 200 (zstep ph (zEm ph d) 0 33 0 [0] L st M) := zEv_step rfl
theorem e200_33 (ph : Bool) (d : Nat) (L st : List zV) (M : zM) : zEv ph d 200 33 L st M = zcont ph d 200 (zstep ph (zEm ph d) 4 34 0 [0] L st M) := zEv_step rfl
theorem e200_34 (ph : Bool) (d : Nat) (L st : List zV) (M : zM) : zEv ph d 200 34 L st M = zcont ph d 200 (zstep ph (zEm ph d) 62 37 0 [30, 15, 3, 10, 75] L st M) := zEv_step rfl
theorem e200_37 (ph : Bool) (d : Nat) (L st : List zV) (M : zM) : zEv ph d 200 37 L st M = zcont ph d 200 (zstep ph (zEm ph d) 0 38 0 [0] L st M) := zEv_step rfl
theorem e200_38 (ph : Bool) (d : Nat) (L st : List zV) (M : zM) : zEv ph d 200 38 L st M = zcont ph d 200 (zstep ph (zEm ph d) 85 39 0 [] L st M) := zEv_step rfl
theorem e200_39 (ph : Bool) (d : Nat) (L st : List zV) (M : zM) : zEv ph d 200 39 L st M = zcont ph d 200 (zstep ph (zEm ph d) 70 42 190 [3, 1, 30] L st M) := zEv_step rfl
theorem e200_42 (ph : Bool) (d : Nat) (L st : List zV) (M : zM) : zEv ph d 200 42 L st M = zcont ph d 200 (zstep ph (zEm ph d) 41 45 47 [] L st M) := zEv_step rfl
theorem e200_45 (ph : Bool) (d : Nat) (L st : List zV) (M : zM) : zEv ph d 200 45 L st M = zcont ph d 200 (zstep ph (zEm ph d) 0 46 0 [0] L st M) := zEv_step rfl
theorem e200_46 (ph : Bool) (d : Nat) (L st : List zV) (M : zM) : zEv ph d 200 46 L st M = zcont ph d 200 (zstep ph (zEm ph d) 80 47 0 [0, 1] L st M) := zEv_step rfl
theorem e200_47 (ph : Bool) (d : Nat) (L st : List zV) (M : zM) : zEv ph d 200 47 L st M = zcont ph d 200 (zstep ph (zEm ph d) 2 48 0 [1] L st M) := zEv_step rfl
theorem e200_48 (ph : Bool) (d : Nat) (L st : List zV) (M : zM) : zEv ph d 200 48 L st M = zcont ph d 200 (zstep ph (zEm ph d) 4 49 0 [0] L st M) := zEv_step rfl
theorem e200_49 (ph : Bool) (d : Nat) (L st : List zV) (M : zM) : zEv ph d 200 49 L st M = zcont ph d 200 (zstep ph (zEm ph d) 60 52 0 [30, 13] L st M) := zEv_step rfl
theorem e200_52 (ph : Bool) (d : Nat) (L st : List zV) (M : zM) : zEv ph d 200 52 L st M = zcont ph d 200 (zstep ph (zEm ph d) 10 53 0 [] L st M) := zEv_step rfl
theorem e200_53 (ph : Bool) (d : Nat) (L st : List zV) (M : zM) : zEv ph d 200 53 L st M = zcont ph d 200 (zstep ph (zEm ph d) 5 54 0 [1] L st M) := zEv_step rfl
theorem e200_54 (ph : Bool) (d : Nat) (L st : List zV) (M : zM) : zEv ph d 200 54 L st M = zcont ph d 200 (zstep ph (zEm ph d) 4 55 0 [0] L st M) := zEv_step rfl
theorem e200_55 (ph : Bool) (d : Nat) (L st : List zV) (M : zM) : zEv ph d 200 55 L st M = zcont ph d 200 (zstep ph (zEm ph d) 62 58 0 [30, 15, 3, 10, 75] L st M) := zEv_step rfl
theorem e200_58 (ph : Bool) (d : Nat) (L st : List zV) (M : zM) : zEv ph d 200 58 L st M = zcont ph d 200 (zstep ph (zEm ph d) 2 59 0 [1] L st M) := zEv_step rfl
theorem e200_59 (ph : Bool) (d : Nat) (L st : List zV) (M : zM) : zEv ph d 200 59 L st M = zcont ph d 200 (zstep ph (zEm ph d) 85 60 0 [] L st M) := zEv_step rfl
theorem e200_60 (ph : Bool) (d : Nat) (L st : List zV) (M : zM) : zEv ph d 200 60 L st M = zcont ph d 200 (zstep ph (zEm ph d) 45 63 69 [] L st M) := zEv_step rfl
theorem e200_63 (ph : Bool) (d : Nat) (L st : List zV) (M : zM) : zEv ph d 200 63 L st M = zcont ph d 200 (zstep ph (zEm ph d) 4 64 0 [0] L st M) := zEv_step rfl
theorem e200_64 (ph : Bool) (d : Nat) (L st : List zV) (M : zM) : zEv ph d 200 64 L st M = zcont ph d 200 (zstep ph (zEm ph d) 0 65 0 [3] L st M) := zEv_step rfl
theorem e200_65 (ph : Bool) (d : Nat) (L st : List zV) (M : zM) : zEv ph d 200 65 L st M = zcont ph d 200 (zstep ph (zEm ph d) 70 68 182 [2, 1, 30] L st M) := zEv_step rfl
theorem e200_68 (ph : Bool) (d : Nat) (L st : List zV) (M : zM) : zEv ph d 200 68 L st M = zcont ph d 200 (zstep ph (zEm ph d) 80 69 0 [0, 1] L st M) := zEv_step rfl
theorem e200_69 (ph : Bool) (d : Nat) (L st : List zV) (M : zM) : zEv ph d 200 69 L st M = zcont ph d 200 (zstep ph (zEm ph d) 4 70 0 [0] L st M) := zEv_step rfl
theorem e200_70 (ph : Bool) (d : Nat) (L st : List zV) (M : zM) : zEv ph d 200 70 L st M = zcont ph d 200 (zstep ph (zEm ph d) 70 73 176 [1, 0, 30] L st M) := zEv_step rfl
theorem e200_73 (ph : Bool) (d : Nat) (L st : List zV) (M : zM) : zEv ph d 200 73 L st M = zcont ph d 200 (zstep ph (zEm ph d) 4 74 0 [0] L st M) := zEv_step rfl
theorem e200_74 (ph : Bool) (d : Nat) (L st : List zV) (M : zM) : zEv ph d 200 74 L st M = zcont ph d 200 (zstep ph (zEm ph d) 2 75 0 [1] L st M) := zEv_step rfl
theorem e200_75 (ph : Bool) (d : Nat) (L st : List zV) (M : zM) : zEv ph d 200 75 L st M = zcont ph d 200 (zstep ph (zEm ph d) 4 76 0 [0] L st M) := zEv_step rfl
theorem e200_76 (ph : Bool) (d : Nat) (L st : List zV) (M : zM) : zEv ph d 200 76 L st M = zcont ph d 200 (zstep ph (zEm ph d) 0 77 0 [1] L st M) := zEv_step rfl
theorem e200_77 (ph : Bool) (d : Nat) (L st : List zV) (M : zM) : zEv ph d 200 77 L st M = zcont ph d 200 (zstep ph (zEm ph d) 0 79 0 [9] L st M) := zEv_step rfl
theorem e200_79 (ph : Bool) (d : Nat) (L st : List zV) (M : zM) : zEv ph d 200 79 L st M = zcont ph d 200 (zstep ph (zEm ph d) 70 82 183 [3, 1, 30] L st M) := zEv_step rfl
theorem e200_82 (ph : Bool) (d : Nat) (L st : List zV) (M : zM) : zEv ph d 200 82 L st M = zcont ph d 200 (zstep ph (zEm ph d) 70 85 193 [3, 1, 30] L st M) := zEv_step rfl
theorem e200_85 (ph : Bool) (d : Nat) (L st : List zV) (M : zM) : zEv ph d 200 85 L st M = zcont ph d 200 (zstep ph (zEm ph d) 80 86 0 [0, 1] L st M) := zEv_step rfl
theorem m201 (ph : Bool) (d : Nat) (a x0 p0 y0 p1 y1 p2 y2 : Int) (M : zM) : zEm ph (d + 1) 201 [(30, a, x0), (0, p0, y0), (0, p1, y1), (0, p2, y2)] M = zEv ph d 201 0 [(30, a, x0), (0, p0, y0), (0, p1, y1), (0, p2, y2), (3, 0, 0)] [] M := rfl
theorem e201_0 (ph : Bool) (d : Nat) (L st : List zV) (M : zM) : zEv ph d 201 0 L st M = zcont ph d 201 (zstep ph (zEm ph d) 4 1 0 [0] L st M) := zEv_step rfl
theorem e201_1 (ph : Bool) (d : Nat) (L st : List zV) (M : zM) : zEv ph d 201 1 L st M = zcont ph d 201 (zstep ph (zEm ph d) 70 4 176 [1, 0, 30] L st M) := zEv_step rfl
theorem e201_4 (ph : Bool) (d : Nat) (L st : List zV) (M : zM) : zEv ph d 201 4 L st M = zcont ph d 201 (zstep ph (zEm ph d) 4 5 0 [0] L st M) := zEv_step rfl
theorem e201_5 (ph : Bool) (d : Nat) (L st : List zV) (M : zM) : zEv ph d 201 5 L st M = zcont ph d 201 (zstep ph (zEm ph d) 70 8 195 [1, 1, 30] L st M) := zEv_step rfl
theorem e201_8 (ph : Bool) (d : Nat) (L st : List zV) (M : zM) : zEv ph d 201 8 L st M = zcont ph d 201 (zstep ph (zEm ph d) 41 11 13 [] L st M) := zEv_step rfl
theorem e201_11 (ph : Bool) (d : Nat) (L st : List zV) (M : zM) : zEv ph d 201 11 L st M = zcont ph d 201 (zstep ph (zEm ph d) 0 12 0 [0] L st M) := zEv_step rfl
theorem e201_12 (ph : Bool) (d : Nat) (L st : List zV) (M : zM) : zEv ph d 201 12 L st M = zcont ph d 201 (zstep ph (zEm ph d) 80 13 0 [0, 1] L st M) := zEv_step rfl
theorem e201_13 (ph : Bool) (d : Nat) (L st : List zV) (M : zM) : zEv ph d 201 13 L st M = zcont ph d 201 (zstep ph (zEm ph d) 4 14 0 [0] L st M) := zEv_step rfl
theorem e201_14 (ph : Bool) (d : Nat) (L st : List zV) (M : zM) : zEv ph d 201 14 L st M = zcont ph d 201 (zstep ph (zEm ph d) 60 17 0 [30, 13] L st M) := zEv_step rfl
theorem e201_17 (ph : Bool) (d : Nat) (L st : List zV) (M : zM) : zEv ph d 201 17 L st M = zcont ph d 201 (zstep ph (zEm ph d) 5 19 0 [4] L st M) := zEv_step rfl
theorem e201_19 (ph : Bool) (d : Nat) (L st : List zV) (M : zM) : zEv ph d 201 19 L st M = zcont ph d 201 (zstep ph (zEm ph d) 4 20 0 [0] L st M) := zEv_step rfl
theorem e201_20 (ph : Bool) (d : Nat) (L st : List zV) (M : zM) : zEv ph d 201 20 L st M = zcont ph d 201 (zstep ph (zEm ph d) 2 21 0 [2] L st M) := zEv_step rfl
theorem e201_21 (ph : Bool) (d : Nat) (L st : List zV) (M : zM) : zEv ph d 201 21 L st M = zcont ph d 201 (zstep ph (zEm ph d) 2 23 0 [4] L st M) := zEv_step rfl
theorem e201_23 (ph : Bool) (d : Nat) (L st : List zV) (M : zM) : zEv ph d 201 23 L st M = zcont ph d 201 (zstep ph (zEm ph d) 10 24 0 [] L st M) := zEv_step rfl
theorem e201_24 (ph : Bool) (d : Nat) (L st : List zV) (M : zM) : zEv ph d 201 24 L st M = zcont ph d 201 (zstep ph (zEm ph d) 70 27 194 [2, 1, 30] L st M) := zEv_step rfl
theorem e201_27 (ph : Bool) (d : Nat) (L st : List zV) (M : zM) : zEv ph d 201 27 L st M = zcont ph d 201 (zstep ph (zEm ph d) 40 30 51 [] L st M) := zEv_step rfl
theorem e201_30 (ph : Bool) (d : Nat) (L st : List zV) (M : zM) : zEv ph d 201 30 L st M = zcont ph d 201 (zstep ph (zEm ph d) 4 31 0 [0] L st M) := zEv_step rfl
theorem e201_31 (ph : Bool) (d : Nat) (L st : List zV) (M : zM) : zEv ph d 201 31 L st M = zcont ph d 201 (zstep ph (zEm ph d) 2 32 0 [1] L st M) := zEv_step rfl
theorem e201_32 (ph : Bool) (d : Nat) (L st : List zV) (M : zM) : zEv ph d 201 32 L st M = zcont ph d 201 (zstep ph (zEm ph d) 2 34 0 [4] L st M) := zEv_step rfl
theorem e201_34 (ph : Bool) (d : Nat) (L st : List zV) (M : zM) : zEv ph d 201 34 L st M = zcont ph d 201 (zstep ph (zEm ph d) 10 35 0 [] L st M) := zEv_step rfl
theorem e201_35 (ph : Bool) (d : Nat) (L st : List zV) (M : zM) : zEv ph d 201 35 L st M = zcont ph d 201 (zstep ph (zEm ph d) 4 36 0 [0] L st M) := zEv_step rfl
theorem e201_36 (ph : Bool) (d : Nat) (L st : List zV) (M : zM) : zEv ph d 201 36 L st M = zcont ph d 201 (zstep ph (zEm ph d) 0 37 0 [0] L st M) := zEv_step rfl
theorem e201_37 (ph : Bool) (d : Nat) (L st : List zV) (M : zM) : zEv ph d 201 37 L st M = zcont ph d 201 (zstep ph (zEm ph d) 2 38 0 [3] L st M) := zEv_step rfl
theorem e201_38 (ph : Bool) (d : Nat) (L st : List zV) (M : zM) : zEv ph d 201 38 L st M = zcont ph d 201 (zstep ph (zEm ph d) 70 41 183 [3, 1, 30] L st M) := zEv_step rfl
theorem e201_41 (ph : Bool) (d : Nat) (L st : List zV) (M : zM) : zEv ph d 201 41 L st M = zcont ph d 201 (zstep ph (zEm ph d) 70 44 193 [3, 1, 30] L st M) := zEv_step rfl
theorem e201_44 (ph : Bool) (d : Nat) (L st : List zV) (M : zM) : zEv ph d 201 44 L st M = zcont ph d 201 (zstep ph (zEm ph d) 40 47 51 [] L st M) := zEv_step rfl
theorem e201_47 (ph : Bool) (d : Nat) (L st : List zV) (M : zM) : zEv ph d 201 47 L st M = zcont ph d 201 (zstep ph (zEm ph d) 0 48 0 [1] L st M) := zEv_step rfl
theorem e201_48 (ph : Bool) (d : Nat) (L st : List zV) (M : zM) : zEv ph d 201 48 L st M = zcont ph d 201 (zstep ph (zEm ph d) 52 51 52 [] L st M) := zEv_step rfl
theorem e201_51 (ph : Bool) (d : Nat) (L st : List zV) (M : zM) : zEv ph d 201 51 L st M = zcont ph d 201 (zstep ph (zEm ph d) 0 52 0 [0] L st M) := zEv_step rfl
theorem e201_52 (ph : Bool) (d : Nat) (L st : List zV) (M : zM) : zEv ph d 201 52 L st M = zcont ph d 201 (zstep ph (zEm ph d) 80 53 0 [0, 1] L st M) := zEv_step rfl
def vlP (A B : zM) : Prop := (A 4 6 = B 200 0 ∧ 0 ≤ A 4 6 ∧ A 4 6 ≤ 5) ∧ (A 4 7 = B 200 1 ∧ 0 ≤ A 4 7 ∧ A 4 7 ≤ 10) ∧ (A 4 8 = B 200 2 ∧ 0 ≤ A 4 8 ∧ A 4 8 ≤ 5) ∧ (A 4 10 = B 200 3 ∧ 1 ≤ A 4 10 ∧ A 4 10 ≤ 9) ∧ (A 4 11 = B 200 4 ∧ 0 ≤ A 4 11 ∧ A 4 11 ≤ 9) ∧ (A 4 9 = B 200 39 ∧ 0 ≤ A 4 9 ∧ A 4 9 < 1024) ∧ (∀ k, 0 ≤ k → k < A 4 6 → nmR (A 5 k) (B 205 (0 + k))) ∧ (∀ k, 0 ≤ k → k < A 4 7 → nmR (A 6 k) (B 205 (5 + k))) ∧ (∀ k, 0 ≤ k → k < A 4 8 → nmR (A 7 k) (B 205 (15 + k))) ∧ (∀ k, 0 ≤ k → k < A 4 7 → A 8 k = B 200 (9 + k) ∧ 0 ≤ A 8 k ∧ A 8 k < A 4 6) ∧ (∀ k, 0 ≤ k → k < 10 → A 12 k = B 200 (19 + k) ∧ 0 ≤ A 12 k ∧ A 12 k ≤ 20 ∧ (A 4 7 ≤ k → A 12 k = 0)) ∧ (∀ k, 0 ≤ k → k < 10 → A 13 k = B 200 (29 + k) ∧ 0 ≤ A 13 k ∧ A 13 k ≤ 99 ∧ (A 4 7 ≤ k → A 13 k = 0)) ∧ (∀ k, 0 ≤ k → k < 5 → A 14 k = B 200 (40 + k) ∧ 0 ≤ A 14 k ∧ A 14 k < 1024) ∧ (∀ k, 0 ≤ k → k < 5 → A 15 k = B 200 (45 + k) ∧ 0 ≤ A 15 k ∧ A 15 k < 1024) ∧ (∀ k, 0 ≤ k → k < 25 → A 9 k = B 200 (50 + k) ∧ 0 ≤ A 9 k ∧ A 9 k ≤ 9) ∧ (∀ k, 0 ≤ k → k < 2 → A 10 k = B 200 (7 + k) ∧ 0 ≤ A 10 k ∧ A 10 k ≤ 99) ∧ (∀ k, 0 ≤ k → k < 2 → A 19 k = B 200 (5 + k) ∧ 0 ≤ A 19 k ∧ A 19 k ≤ 20) ∧ ((0 ≤ A 1 5 ∧ A 1 5 < 64) ∧ ∀ k, 0 ≤ k → k < 6 → B 208 k = A 1 5 / zshl 1 k % 2) ∧ ((A 11 8 = 0 ∧ A 11 9 = 0 ∧ A 11 10 = 0) ∧ ∀ k, 0 ≤ k → k < 5 → A 16 k = 0 ∧ A 17 k = -1 ∧ A 18 k = -1)
theorem vlP.k0 {A B : zM} (hP : vlP A B) : A 4 6 = B 200 0 ∧ 0 ≤ A 4 6 ∧ A 4 6 ≤ 5 := hP.1
theorem vlP.k1 {A B : zM} (hP : vlP A B) : A 4 7 = B 200 1 ∧ 0 ≤ A 4 7 ∧ A 4 7 ≤ 10 := hP.2.1
theorem vlP.k2 {A B : zM} (hP : vlP A B) : A 4 8 = B 200 2 ∧ 0 ≤ A 4 8 ∧ A 4 8 ≤ 5 := hP.2.2.1
theorem vlP.pr {A B : zM} (hP : vlP A B) : A 4 10 = B 200 3 ∧ 1 ≤ A 4 10 ∧ A 4 10 ≤ 9 := hP.2.2.2.1
theorem vlP.wg {A B : zM} (hP : vlP A B) : A 4 11 = B 200 4 ∧ 0 ≤ A 4 11 ∧ A 4 11 ≤ 9 := hP.2.2.2.2.1
theorem vlP.ch {A B : zM} (hP : vlP A B) : A 4 9 = B 200 39 ∧ 0 ≤ A 4 9 ∧ A 4 9 < 1024 := hP.2.2.2.2.2.1
theorem vlP.n1 {A B : zM} (hP : vlP A B) : ∀ k, 0 ≤ k → k < A 4 6 → nmR (A 5 k) (B 205 (0 + k)) := hP.2.2.2.2.2.2.1
theorem vlP.n2 {A B : zM} (hP : vlP A B) : ∀ k, 0 ≤ k → k < A 4 7 → nmR (A 6 k) (B 205 (5 + k)) := hP.2.2.2.2.2.2.2.1
theorem vlP.n3 {A B : zM} (hP : vlP A B) : ∀ k, 0 ≤ k → k < A 4 8 → nmR (A 7 k) (B 205 (15 + k)) := hP.2.2.2.2.2.2.2.2.1
theorem vlP.hm {A B : zM} (hP : vlP A B) : ∀ k, 0 ≤ k → k < A 4 7 → A 8 k = B 200 (9 + k) ∧ 0 ≤ A 8 k ∧ A 8 k < A 4 6 := hP.2.2.2.2.2.2.2.2.2.1
theorem vlP.ir {A B : zM} (hP : vlP A B) : ∀ k, 0 ≤ k → k < 10 → A 12 k = B 200 (19 + k) ∧ 0 ≤ A 12 k ∧ A 12 k ≤ 20 ∧ (A 4 7 ≤ k → A 12 k = 0) := hP.2.2.2.2.2.2.2.2.2.2.1
theorem vlP.co {A B : zM} (hP : vlP A B) : ∀ k, 0 ≤ k → k < 10 → A 13 k = B 200 (29 + k) ∧ 0 ≤ A 13 k ∧ A 13 k ≤ 99 ∧ (A 4 7 ≤ k → A 13 k = 0) := hP.2.2.2.2.2.2.2.2.2.2.2.1
theorem vlP.lf {A B : zM} (hP : vlP A B) : ∀ k, 0 ≤ k → k < 5 → A 14 k = B 200 (40 + k) ∧ 0 ≤ A 14 k ∧ A 14 k < 1024 := hP.2.2.2.2.2.2.2.2.2.2.2.2.1
theorem vlP.rt {A B : zM} (hP : vlP A B) : ∀ k, 0 ≤ k → k < 5 → A 15 k = B 200 (45 + k) ∧ 0 ≤ A 15 k ∧ A 15 k < 1024 := hP.2.2.2.2.2.2.2.2.2.2.2.2.2.1
theorem vlP.gr {A B : zM} (hP : vlP A B) : ∀ k, 0 ≤ k → k < 25 → A 9 k = B 200 (50 + k) ∧ 0 ≤ A 9 k ∧ A 9 k ≤ 9 := hP.2.2.2.2.2.2.2.2.2.2.2.2.2.2.1
theorem vlP.ec {A B : zM} (hP : vlP A B) : ∀ k, 0 ≤ k → k < 2 → A 10 k = B 200 (7 + k) ∧ 0 ≤ A 10 k ∧ A 10 k ≤ 99 := hP.2.2.2.2.2.2.2.2.2.2.2.2.2.2.2.1
theorem vlP.sd {A B : zM} (hP : vlP A B) : ∀ k, 0 ≤ k → k < 2 → A 19 k = B 200 (5 + k) ∧ 0 ≤ A 19 k ∧ A 19 k ≤ 20 := hP.2.2.2.2.2.2.2.2.2.2.2.2.2.2.2.2.1
theorem vlP.on {A B : zM} (hP : vlP A B) : (0 ≤ A 1 5 ∧ A 1 5 < 64) ∧ ∀ k, 0 ≤ k → k < 6 → B 208 k = A 1 5 / zshl 1 k % 2 := hP.2.2.2.2.2.2.2.2.2.2.2.2.2.2.2.2.2.1
theorem vlP.st {A B : zM} (hP : vlP A B) : (A 11 8 = 0 ∧ A 11 9 = 0 ∧ A 11 10 = 0) ∧ ∀ k, 0 ≤ k → k < 5 → A 16 k = 0 ∧ A 17 k = -1 ∧ A 18 k = -1 := hP.2.2.2.2.2.2.2.2.2.2.2.2.2.2.2.2.2.2
def frV (A A' : zM) : Prop := ∀ x y, ¬ (x = 1 ∧ y = 5) → ¬ (x = 2 ∧ 2 ≤ y ∧ y ≤ 11) → ¬ (4 ≤ x ∧ x ≤ 19) → A' x y = A x y
def frW (B B' : zM) : Prop := ∀ x y, ¬ (x = 197 ∧ 5 ≤ y ∧ y ≤ 13) → x ≠ 200 → x ≠ 205 → x ≠ 208 → B' x y = B x y
theorem frV_X {A B C : zM} (h : frV A B) (k : agX B C) : frV A C := fun x y z1 z2 z3 => (k x y (by omega)).trans (h x y z1 z2 z3)
theorem frW_Y {A B C : zM} (h : frW A B) (k : agY B C) : frW A C := fun x y z1 z2 z3 z4 => (k x y (by omega)).trans (h x y z1 z2 z3 z4)
theorem frV_t {A B C : zM} (h : frV A B) (k : frV B C) : frV A C := fun x y z1 z2 z3 => (k x y z1 z2 z3).trans (h x y z1 z2 z3)
theorem frW_t {A B C : zM} (h : frW A B) (k : frW B C) : frW A C := fun x y z1 z2 z3 z4 => (k x y z1 z2 z3 z4).trans (h x y z1 z2 z3 z4)
theorem frV_r {A : zM} : frV A A := fun _ _ _ _ _ => rfl
theorem frW_r {A : zM} : frW A A := fun _ _ _ _ _ _ => rfl
theorem vl_fr {A B A' B' : zM} (h : vlP A B) (a : ∀ x y, (x = 1 ∧ y = 5) ∨ (4 ≤ x ∧ x ≤ 19) → A' x y = A x y) (b : ∀ x y, x = 200 ∨ x = 205 ∨ x = 208 → B' x y = B x y) : vlP A' B' := by
  have r : ∀ x, 4 ≤ x → x ≤ 19 → A' x = A x := fun x h1 h2 => funext fun y => a x y (by omega)
  have s : ∀ x, x = 200 ∨ x = 205 ∨ x = 208 → B' x = B x := fun x h1 => funext fun y => b x y h1
  have e5 := a 1 5 (by omega)
  refine ⟨?_, ?_, ?_, ?_, ?_, ?_, ?_, ?_, ?_, ?_, ?_, ?_, ?_, ?_, ?_, ?_, ?_, ?_, ?_⟩
  · rw [r 4 (by omega) (by omega), s 200 (by omega)]; exact h.k0
  · rw [r 4 (by omega) (by omega), s 200 (by omega)]; exact h.k1
  · rw [r 4 (by omega) (by omega), s 200 (by omega)]; exact h.k2
  · rw [r 4 (by omega) (by omega), s 200 (by omega)]; exact h.pr
  · rw [r 4 (by omega) (by omega), s 200 (by omega)]; exact h.wg
  · rw [r 4 (by omega) (by omega), s 200 (by omega)]; exact h.ch
  · rw [r 4 (by omega) (by omega), r 5 (by omega) (by omega), s 205 (by omega)]; exact h.n1
  · rw [r 4 (by omega) (by omega), r 6 (by omega) (by omega), s 205 (by omega)]; exact h.n2
  · rw [r 4 (by omega) (by omega), r 7 (by omega) (by omega), s 205 (by omega)]; exact h.n3
  · rw [r 4 (by omega) (by omega), r 8 (by omega) (by omega), s 200 (by omega)]; exact h.hm
  · rw [r 4 (by omega) (by omega), r 12 (by omega) (by omega), s 200 (by omega)]; exact h.ir
  · rw [r 4 (by omega) (by omega), r 13 (by omega) (by omega), s 200 (by omega)]; exact h.co
  · rw [r 14 (by omega) (by omega), s 200 (by omega)]; exact h.lf
  · rw [r 15 (by omega) (by omega), s 200 (by omega)]; exact h.rt
  · rw [r 9 (by omega) (by omega), s 200 (by omega)]; exact h.gr
  · rw [r 10 (by omega) (by omega), s 200 (by omega)]; exact h.ec
  · rw [r 19 (by omega) (by omega), s 200 (by omega)]; exact h.sd
  · rw [e5, s 208 (by omega)]; exact h.on
  · rw [r 11 (by omega) (by omega), r 16 (by omega) (by omega), r 17 (by omega) (by omega), r 18 (by omega) (by omega)]; exact h.st
theorem vl_ag {A B A' B' : zM} (h : vlP A B) (a : agX A A') (b : agY B B') : vlP A' B' := vl_fr h (fun x y z => a x y (by omega)) (fun x y z => b x y (by omega))
/-! one place of both is set -/
theorem vl_u {A B : zM} (h : vlP A B) {x y i v : Int} (hx : (x = 14 ∧ i = 40 + y ∧ 0 ≤ y ∧ y < 5 ∧ 0 ≤ v ∧ v < 1024) ∨ (x = 15 ∧ i = 45 + y ∧ 0 ≤ y ∧ y < 5 ∧ 0 ≤ v ∧ v < 1024) ∨ (x = 9 ∧ i = 50 + y ∧ 0 ≤ y ∧ y < 25 ∧ 0 ≤ v ∧ v ≤ 9) ∨ (x = 10 ∧ i = 7 + y ∧ 0 ≤ y ∧ y < 2 ∧ 0 ≤ v ∧ v ≤ 99) ∨ (x = 19 ∧ i = 5 + y ∧ 0 ≤ y ∧ y < 2 ∧ 0 ≤ v ∧ v ≤ 20) ∨ (x = 4 ∧ y = 10 ∧ i = 3 ∧ 1 ≤ v ∧ v ≤ 9) ∨ (x = 4 ∧ y = 11 ∧ i = 4 ∧ 0 ≤ v ∧ v ≤ 9) ∨ (x = 4 ∧ y = 9 ∧ i = 39 ∧ 0 ≤ v ∧ v < 1024)) : vlP (zup A x y v) (zup B 200 i v) := by
  have a : ∀ p q, ¬ (p = x ∧ q = y) → zup A x y v p q = A p q := fun p q z => zup_f z
  have b : ∀ p q, ¬ (p = 200 ∧ q = i) → zup B 200 i v p q = B p q := fun p q z => zup_f z
  have ax : zup A x y v x y = v := zup_e (by omega)
  have bx : zup B 200 i v 200 i = v := zup_e (by omega)
  refine ⟨?_, ?_, ?_, ?_, ?_, ?_, ?_, ?_, ?_, ?_, ?_, ?_, ?_, ?_, ?_, ?_, ?_, ?_, ?_⟩
  · rw [a 4 6 (by omega), b 200 0 (by omega)]; exact h.k0
  · rw [a 4 7 (by omega), b 200 1 (by omega)]; exact h.k1
  · rw [a 4 8 (by omega), b 200 2 (by omega)]; exact h.k2
  · by_cases c : x = 4 ∧ y = 10
    · obtain ⟨rfl, rfl⟩ := c
      have ei : i = 3 := by omega
      subst ei
      rw [ax, bx]
      omega
    · rw [a 4 10 (by omega), b 200 3 (by omega)]; exact h.pr
  · by_cases c : x = 4 ∧ y = 11
    · obtain ⟨rfl, rfl⟩ := c
      have ei : i = 4 := by omega
      subst ei
      rw [ax, bx]
      omega
    · rw [a 4 11 (by omega), b 200 4 (by omega)]; exact h.wg
  · by_cases c : x = 4 ∧ y = 9
    · obtain ⟨rfl, rfl⟩ := c
      have ei : i = 39 := by omega
      subst ei
      rw [ax, bx]
      omega
    · rw [a 4 9 (by omega), b 200 39 (by omega)]; exact h.ch
  · intro k k0 k1
    rw [a 4 6 (by omega)] at k1
    rw [a 5 k (by omega), b _ _ (by omega)]; exact h.n1 k k0 k1
  · intro k k0 k1
    rw [a 4 7 (by omega)] at k1
    rw [a 6 k (by omega), b _ _ (by omega)]; exact h.n2 k k0 k1
  · intro k k0 k1
    rw [a 4 8 (by omega)] at k1
    rw [a 7 k (by omega), b _ _ (by omega)]; exact h.n3 k k0 k1
  · intro k k0 k1
    have := h.k1
    rw [a 4 7 (by omega)] at k1
    rw [a 8 k (by omega), a 4 6 (by omega), b 200 (9 + k) (by omega)]; exact h.hm k k0 k1
  · intro k k0 k1
    rw [a 12 k (by omega), a 4 7 (by omega), b 200 (19 + k) (by omega)]; exact h.ir k k0 k1
  · intro k k0 k1
    rw [a 13 k (by omega), a 4 7 (by omega), b 200 (29 + k) (by omega)]; exact h.co k k0 k1
  · intro k k0 k1
    by_cases c : x = 14 ∧ y = k
    · obtain ⟨rfl, rfl⟩ := c
      have ei : i = 40 + y := by omega
      subst ei
      rw [ax, bx]
      omega
    · rw [a 14 k (by omega), b 200 (40 + k) (by omega)]; exact h.lf k k0 k1
  · intro k k0 k1
    by_cases c : x = 15 ∧ y = k
    · obtain ⟨rfl, rfl⟩ := c
      have ei : i = 45 + y := by omega
      subst ei
      rw [ax, bx]
      omega
    · rw [a 15 k (by omega), b 200 (45 + k) (by omega)]; exact h.rt k k0 k1
  · intro k k0 k1
    by_cases c : x = 9 ∧ y = k
    · obtain ⟨rfl, rfl⟩ := c
      have ei : i = 50 + y := by omega
      subst ei
      rw [ax, bx]
      omega
    · rw [a 9 k (by omega), b 200 (50 + k) (by omega)]; exact h.gr k k0 k1
  · intro k k0 k1
    by_cases c : x = 10 ∧ y = k
    · obtain ⟨rfl, rfl⟩ := c
      have ei : i = 7 + y := by omega
      subst ei
      rw [ax, bx]
      omega
    · rw [a 10 k (by omega), b 200 (7 + k) (by omega)]; exact h.ec k k0 k1
  · intro k k0 k1
    by_cases c : x = 19 ∧ y = k
    · obtain ⟨rfl, rfl⟩ := c
      have ei : i = 5 + y := by omega
      subst ei
      rw [ax, bx]
      omega
    · rw [a 19 k (by omega), b 200 (5 + k) (by omega)]; exact h.sd k k0 k1
  · rw [a 1 5 (by omega)]
    refine ⟨h.on.1, fun k k0 k1 => ?_⟩
    rw [b _ _ (by omega)]; exact h.on.2 k k0 k1
  · rw [a 11 8 (by omega), a 11 9 (by omega), a 11 10 (by omega)]
    refine ⟨h.st.1, fun k k0 k1 => ?_⟩
    rw [a 16 k (by omega), a 17 k (by omega), a 18 k (by omega)]; exact h.st.2 k k0 k1
/-! what may be told once -/
theorem onc_all : ((List.range 64).all fun x => (List.range 6).all fun k => (decide (zand x (zshl 1 k) = 0) == decide ((x : Int) / zshl 1 k % 2 = 0)) && decide (0 ≤ zor x (zshl 1 k)) && decide (zor x (zshl 1 k) < 64) && ((List.range 6).all fun j => decide (zor x (zshl 1 k) / zshl 1 j % 2 = if j = k then 1 else (x : Int) / zshl 1 j % 2))) = true := by decide +kernel
theorem onc_t {x k : Int} (x0 : 0 ≤ x) (x1 : x < 64) (k0 : 0 ≤ k) (k1 : k < 6) : (zand x (zshl 1 k) = 0 ↔ x / zshl 1 k % 2 = 0) ∧ (0 ≤ zor x (zshl 1 k) ∧ zor x (zshl 1 k) < 64) ∧ ∀ j, 0 ≤ j → j < 6 → zor x (zshl 1 k) / zshl 1 j % 2 = if j = k then 1 else x / zshl 1 j % 2 := by
  have := onc_all
  rw [List.all_eq_true] at this
  have := this x.toNat (List.mem_range.mpr (by omega))
  rw [List.all_eq_true] at this
  have := this k.toNat (List.mem_range.mpr (by omega))
  rw [Int.toNat_of_nonneg x0, Int.toNat_of_nonneg k0] at this
  simp only [Bool.and_eq_true, beq_iff_eq, decide_eq_decide, decide_eq_true_eq] at this
  obtain ⟨⟨⟨h1, h2⟩, h3⟩, h4⟩ := this
  refine ⟨h1, ⟨h2, h3⟩, fun j j0 j1 => ?_⟩
  rw [List.all_eq_true] at h4
  have := h4 j.toNat (List.mem_range.mpr (by omega))
  simp only [decide_eq_true_eq] at this
  rw [Int.toNat_of_nonneg j0] at this
  rw [this]
  by_cases c : j = k
  · rw [if_pos c, if_pos (by omega)]
  · rw [if_neg c, if_neg (by omega)]
theorem vl_on {A B : zM} (h : vlP A B) {k : Int} (k0 : 0 ≤ k) (k1 : k < 6) : vlP (zup A 1 5 (zor (A 1 5) (zshl 1 k))) (zup B 208 k 1) := by
  have ho := onc_t h.on.1.1 h.on.1.2 k0 k1
  have h1 : vlP A (zup B 208 k 1) → True := fun _ => trivial
  have a : ∀ p q, ¬ (p = 1 ∧ q = 5) → zup A 1 5 (zor (A 1 5) (zshl 1 k)) p q = A p q := fun p q z => zup_f z
  have b : ∀ p q, ¬ (p = 208 ∧ q = k) → zup B 208 k 1 p q = B p q := fun p q z => zup_f z
  have r : ∀ x, x ≠ 1 → zup A 1 5 (zor (A 1 5) (zshl 1 k)) x = A x := fun x h1 => funext fun y => a x y (by omega)
  have s : ∀ x, x ≠ 208 → zup B 208 k 1 x = B x := fun x h1 => funext fun y => b x y (by omega)
  refine ⟨?_, ?_, ?_, ?_, ?_, ?_, ?_, ?_, ?_, ?_, ?_, ?_, ?_, ?_, ?_, ?_, ?_, ?_, ?_⟩
  · rw [r 4 (by omega), s 200 (by omega)]; exact h.k0
  · rw [r 4 (by omega), s 200 (by omega)]; exact h.k1
  · rw [r 4 (by omega), s 200 (by omega)]; exact h.k2
  · rw [r 4 (by omega), s 200 (by omega)]; exact h.pr
  · rw [r 4 (by omega), s 200 (by omega)]; exact h.wg
  · rw [r 4 (by omega), s 200 (by omega)]; exact h.ch
  · rw [r 4 (by omega), r 5 (by omega), s 205 (by omega)]; exact h.n1
  · rw [r 4 (by omega), r 6 (by omega), s 205 (by omega)]; exact h.n2
  · rw [r 4 (by omega), r 7 (by omega), s 205 (by omega)]; exact h.n3
  · rw [r 4 (by omega), r 8 (by omega), s 200 (by omega)]; exact h.hm
  · rw [r 4 (by omega), r 12 (by omega), s 200 (by omega)]; exact h.ir
  · rw [r 4 (by omega), r 13 (by omega), s 200 (by omega)]; exact h.co
  · rw [r 14 (by omega), s 200 (by omega)]; exact h.lf
  · rw [r 15 (by omega), s 200 (by omega)]; exact h.rt
  · rw [r 9 (by omega), s 200 (by omega)]; exact h.gr
  · rw [r 10 (by omega), s 200 (by omega)]; exact h.ec
  · rw [r 19 (by omega), s 200 (by omega)]; exact h.sd
  · rw [zup_e (by omega)]
    refine ⟨ho.2.1, fun j j0 j1 => ?_⟩
    rw [ho.2.2 j j0 j1]
    by_cases c : j = k
    · rw [if_pos c, c, zup_e (by omega)]
    · rw [if_neg c, b _ _ (by omega)]
      exact h.on.2 j j0 j1
  · rw [r 11 (by omega), r 16 (by omega), r 17 (by omega), r 18 (by omega)]; exact h.st
/-- a mark is set, or it was -/
theorem p_once {A B : zM} (h : tkR A B) (v : vlP A B) {k : Int} (k0 : 0 ≤ k) (k1 : k < 6) (hnw : B 197 7 = 2) (D e : Nat) (hD : 3 ≤ D) (hE : 4 ≤ e) (x0 y0 y y1 : Int) : (zEm true D 90 [(24, 1, x0), (0, zshl 1 k, y)] A = some ((0, 1, 0), zup A 1 5 (zor (A 1 5) (zshl 1 k))) ∧ ∀ B2, zEm true e 176 [(30, 197, y0)] (zup B 208 k 1) = some ((98, 0, 0), B2) → zEm true (e + 1) 194 [(30, 197, y0), (0, k, y1)] B = some ((0, 1, 0), B2)) ∨ ∃ A' B', zEm true D 90 [(24, 1, x0), (0, zshl 1 k, y)] A = some ((0, 0, 0), A') ∧ zEm true (e + 1) 194 [(30, 197, y0), (0, k, y1)] B = some ((0, 0, 0), B') ∧ agX A A' ∧ agY B B' ∧ flR A' B' := by
  obtain ⟨d, rfl⟩ : ∃ d, D = d + 1 := ⟨D - 1, by omega⟩
  have ho := onc_t v.on.1.1 v.on.1.2 k0 k1
  have hb := v.on.2 k k0 k1
  by_cases c : zand (A 1 5) (zshl 1 k) = 0
  · left
    have hb0 : B 208 k = 0 := by rw [hb]; exact ho.1.1 c
    refine ⟨?_, fun B2 hg => ?_⟩
    · simp (disch := first | assumption | exact zrm0 | exact zrm1 _ | exact zrm2 _ _ | exact zrm3 _ _ _ | exact zrm4 _ _ _ _ | omega) only [m90, ↓k_dp, ↓k_dn, k_dp, k_dn, k_dT, k_dF, k_ip, k_in, if_true, if_false, ne_eq, not_true_eq_false, not_false_eq_true, Int.reduceAdd, zup_a, zup_e, zup_j, z32_id, k_al0, k_gI, k_il1, k_iand, k_ifeq, k_gR, k_ic, k_v2r, k_rz, k_dup, k_ior, k_pI, zb0_some, zb1_some, e90_0, e90_1, e90_4, e90_5, e90_6, e90_9, e90_10, e90_13, e90_14, e90_17, e90_18, e90_19, e90_20, e90_23, e90_24, e90_25, e90_28, e90_29]
    · simp (disch := first | assumption | exact zrm0 | exact zrm1 _ | exact zrm2 _ _ | exact zrm3 _ _ _ | exact zrm4 _ _ _ _ | omega) only [m194, ↓k_dp, ↓k_dn, k_dp, k_dn, k_dT, k_dF, k_ip, k_in, if_true, if_false, ne_eq, not_true_eq_false, not_false_eq_true, Int.reduceAdd, zup_a, zup_e, zup_j, z32_id, k_al0, k_gR, k_il1, k_bldZ, k_bldB, k_bldD, k_bldT, k_ifeq, k_ic, k_v2r, k_rz, k_bstZ, k_bstB, k_v1, zb0_some, zb1_some, e194_0, e194_1, e194_4, e194_5, e194_6, e194_9, e194_10, e194_11, e194_14, e194_15, e194_16, e194_19, e194_20, e194_21, e194_22, e194_23, e194_26, e194_27, hb0, hg]
  · right
    have hb1 : B 208 k = 1 := by
      have : ¬ A 1 5 / zshl 1 k % 2 = 0 := fun z => c (ho.1.2 z)
      omega
    obtain ⟨Af, Bf, f1, f2, f3, f4, f5⟩ := p_fail h (k := 3) (by omega) (by omega) (fun z => by omega)
    have f1' := f1 d 0 0 (by omega)
    have f2' := f2 e y0 0 (by omega)
    refine ⟨Af, Bf, ?_, ?_, f3, f4, f5⟩
    · simp (disch := first | assumption | exact zrm0 | exact zrm1 _ | exact zrm2 _ _ | exact zrm3 _ _ _ | exact zrm4 _ _ _ _ | omega) only [m90, ↓k_dp, ↓k_dn, k_dp, k_dn, k_dT, k_dF, k_ip, k_in, if_true, if_false, ne_eq, not_true_eq_false, not_false_eq_true, Int.reduceAdd, zup_a, zup_e, zup_j, z32_id, k_al0, k_gI, k_il1, k_iand, k_ifeq, k_gR, k_ic, k_v2r, k_rz, k_dup, k_ior, k_pI, zb0_some, zb1_some, e90_0, e90_1, e90_4, e90_5, e90_6, e90_9, e90_10, e90_13, e90_14, e90_17, e90_18, e90_19, e90_20, e90_23, e90_24, e90_25, e90_28, e90_29, f1']
    · simp (disch := first | assumption | exact zrm0 | exact zrm1 _ | exact zrm2 _ _ | exact zrm3 _ _ _ | exact zrm4 _ _ _ _ | omega) only [m194, ↓k_dp, ↓k_dn, k_dp, k_dn, k_dT, k_dF, k_ip, k_in, if_true, if_false, ne_eq, not_true_eq_false, not_false_eq_true, Int.reduceAdd, zup_a, zup_e, zup_j, z32_id, k_al0, k_gR, k_il1, k_bldZ, k_bldB, k_bldD, k_bldT, k_ifeq, k_ic, k_v2r, k_rz, k_bstZ, k_bstB, k_v1, zb0_some, zb1_some, e194_0, e194_1, e194_4, e194_5, e194_6, e194_9, e194_10, e194_11, e194_14, e194_15, e194_16, e194_19, e194_20, e194_21, e194_22, e194_23, e194_26, e194_27, hb1, f2']
/-- a new name -/
theorem p_new {A B : zM} (h : tkR A B) (v : vlP A B) (D e : Nat) (hD : 4 ≤ D) (hE : 4 ≤ e) (x0 y0 y1 slot : Int) (s0 : 0 ≤ slot) (s1 : slot < 20) : (zEm true D 81 [(24, 1, x0)] A = some ((0, 1, 0), A) ∧ (∀ B2, zEm true e 176 [(30, 197, y0)] (zup B 205 slot (B 197 12)) = some ((98, 0, 0), B2) → zEm true (e + 1) 189 [(30, 197, y0), (0, slot, y1)] B = some ((0, 1, 0), B2)) ∧ nmR (A 2 8) (B 197 12) ∧ A 2 5 = 2) ∨ ∃ A' B', zEm true D 81 [(24, 1, x0)] A = some ((0, 0, 0), A') ∧ zEm true (e + 1) 189 [(30, 197, y0), (0, slot, y1)] B = some ((0, 0, 0), B') ∧ agX A A' ∧ agY B B' ∧ flR A' B' := by
  obtain ⟨d, rfl⟩ : ∃ d, D = d + 2 := ⟨D - 2, by omega⟩
  have nm := p_isName h e (by omega) y0
  have wb := h.2.wb
  have w1 := h.2.w1
  have k0 := v.k0
  have k1 := v.k1
  have k2 := v.k2
  by_cases c : A 2 7 = 2
  · have hv := h.2.nr c
    have h7 := (h.2.nm.1 c).1
    rw [if_pos c] at nm
    have p1 := s_placeOf d (by omega) (A 2 8) 0 5 5 0 (A 4 6) A (by omega) (by omega) (by omega)
    have p2 := s_placeOf d (by omega) (A 2 8) 0 6 10 0 (A 4 7) A (by omega) (by omega) (by omega)
    have p3 := s_placeOf d (by omega) (A 2 8) 0 7 5 0 (A 4 8) A (by omega) (by omega) (by omega)
    have r1 := r_findIn e (by omega) 205 0 0 0 (B 197 12) 0 (A 4 6) B (by omega) (by omega) (by omega)
    have r2 := r_findIn e (by omega) 205 5 0 0 (B 197 12) 0 (A 4 7) B (by omega) (by omega) (by omega)
    have r3 := r_findIn e (by omega) 205 15 0 0 (B 197 12) 0 (A 4 8) B (by omega) (by omega) (by omega)
    rw [p_find v.n1 hv, k0.1] at r1
    rw [p_find v.n2 hv, k1.1] at r2
    rw [p_find v.n3 hv, k2.1] at r3
    rw [k0.1] at p1
    rw [k1.1] at p2
    rw [k2.1] at p3
    generalize fnd (fun k => A 5 k = A 2 8) (B 200 0).toNat 0 = F1 at *
    generalize fnd (fun k => A 6 k = A 2 8) (B 200 1).toNat 0 = F2 at *
    generalize fnd (fun k => A 7 k = A 2 8) (B 200 2).toNat 0 = F3 at *
    by_cases cn : F1 = -1 ∧ F2 = -1 ∧ F3 = -1
    · left
      obtain ⟨rfl, rfl, rfl⟩ := cn
      refine ⟨?_, fun B2 hg => ?_, hv, by omega⟩
      · have ht : zEm true (d + 1) 155 [(28, 4, 0), (1, A 2 8, 0)] A = some ((0, 0, 0), A) := by
          simp (disch := first | assumption | exact zrm0 | exact zrm1 _ | exact zrm2 _ _ | exact zrm3 _ _ _ | exact zrm4 _ _ _ _ | omega) only [m155, ↓k_dp, ↓k_dn, k_dp, k_dn, k_dT, k_dF, k_ip, k_in, if_true, if_false, ne_eq, not_true_eq_false, not_false_eq_true, Int.reduceAdd, zup_a, zup_e, zup_j, z32_id, k_ll1, k_al0, k_gR, k_gI, k_s3r, k_ic, k_icne, k_iceq, k_goto, k_rz, zb0_some, zb1_some, e155_0, e155_1, e155_2, e155_5, e155_6, e155_9, e155_12, e155_13, e155_16, e155_17, e155_18, e155_21, e155_22, e155_25, e155_28, e155_29, e155_32, e155_33, e155_34, e155_37, e155_38, e155_41, e155_44, e155_45, e155_48, e155_49, e155_52, e155_53, k0.1, k1.1, k2.1, p1, p2, p3]
        simp (disch := first | assumption | exact zrm0 | exact zrm1 _ | exact zrm2 _ _ | exact zrm3 _ _ _ | exact zrm4 _ _ _ _ | omega) only [m81, ↓k_dp, ↓k_dn, k_dp, k_dn, k_dT, k_dF, k_ip, k_in, if_true, if_false, ne_eq, not_true_eq_false, not_false_eq_true, Int.reduceAdd, zup_a, zup_e, zup_j, z32_id, k_al0, k_gR, k_gE, k_en, k_aceq, k_ic, k_v2r, k_rz, k_gL, k_ifeq, k_goto, zb0_some, zb1_some, e81_0, e81_1, e81_4, e81_7, e81_10, e81_13, e81_14, e81_17, e81_18, e81_21, e81_22, e81_23, e81_26, e81_27, e81_30, e81_33, e81_36, e81_39, e81_40, e81_43, e81_44, e81_47, e81_50, e81_51, e81_54, e81_55, ht]
      · simp (disch := first | assumption | exact zrm0 | exact zrm1 _ | exact zrm2 _ _ | exact zrm3 _ _ _ | exact zrm4 _ _ _ _ | omega) only [m189, ↓k_dp, ↓k_dn, k_dp, k_dn, k_dT, k_dF, k_ip, k_in, if_true, if_false, ne_eq, not_true_eq_false, not_false_eq_true, Int.reduceAdd, zup_a, zup_e, zup_j, z32_id, k_al0, k_v1r, k_ifne, k_ic, k_v2r, k_rz, k_gR, k_ild, k_ildS, k_ildW, k_gL, k_s4r, k_icne, k_iceq, k_il1, k_lst, k_v1, zb0_some, zb1_some, e189_0, e189_1, e189_4, e189_7, e189_8, e189_9, e189_12, e189_13, e189_14, e189_17, e189_18, e189_19, e189_22, e189_23, e189_24, e189_25, e189_28, e189_31, e189_32, e189_35, e189_36, e189_39, e189_40, e189_41, e189_44, e189_45, e189_46, e189_47, e189_50, e189_53, e189_54, e189_57, e189_58, e189_61, e189_63, e189_64, e189_67, e189_68, e189_69, e189_70, e189_73, e189_76, e189_77, e189_80, e189_81, e189_82, e189_85, e189_86, e189_87, e189_90, e189_91, e189_92, e189_95, e189_96, e189_97, e189_100, e189_101, nm, r1, r2, r3, hg]
    · right
      obtain ⟨Af, Bf, f1, f2, f3, f4, f5⟩ := p_fail h (k := 3) (by omega) (by omega) (fun z => by omega)
      have f1' := f1 (d + 1) 0 0 (by omega)
      have f2' := f2 e y0 0 (by omega)
      refine ⟨Af, Bf, ?_, ?_, f3, f4, f5⟩
      · have ht : zEm true (d + 1) 155 [(28, 4, 0), (1, A 2 8, 0)] A = some ((0, 1, 0), A) := by
          by_cases c1 : F1 = -1
          · rw [c1] at p1
            by_cases c2 : F2 = -1
            · rw [c2] at p2
              have c3 : F3 ≠ -1 := fun z => cn ⟨c1, c2, z⟩
              simp (disch := first | assumption | exact zrm0 | exact zrm1 _ | exact zrm2 _ _ | exact zrm3 _ _ _ | exact zrm4 _ _ _ _ | omega) only [m155, ↓k_dp, ↓k_dn, k_dp, k_dn, k_dT, k_dF, k_ip, k_in, if_true, if_false, ne_eq, not_true_eq_false, not_false_eq_true, Int.reduceAdd, zup_a, zup_e, zup_j, z32_id, k_ll1, k_al0, k_gR, k_gI, k_s3r, k_ic, k_icne, k_iceq, k_goto, k_rz, zb0_some, zb1_some, e155_0, e155_1, e155_2, e155_5, e155_6, e155_9, e155_12, e155_13, e155_16, e155_17, e155_18, e155_21, e155_22, e155_25, e155_28, e155_29, e155_32, e155_33, e155_34, e155_37, e155_38, e155_41, e155_44, e155_45, e155_48, e155_49, e155_52, e155_53, k0.1, k1.1, k2.1, p1, p2, p3]
            · simp (disch := first | assumption | exact zrm0 | exact zrm1 _ | exact zrm2 _ _ | exact zrm3 _ _ _ | exact zrm4 _ _ _ _ | omega) only [m155, ↓k_dp, ↓k_dn, k_dp, k_dn, k_dT, k_dF, k_ip, k_in, if_true, if_false, ne_eq, not_true_eq_false, not_false_eq_true, Int.reduceAdd, zup_a, zup_e, zup_j, z32_id, k_ll1, k_al0, k_gR, k_gI, k_s3r, k_ic, k_icne, k_iceq, k_goto, k_rz, zb0_some, zb1_some, e155_0, e155_1, e155_2, e155_5, e155_6, e155_9, e155_12, e155_13, e155_16, e155_17, e155_18, e155_21, e155_22, e155_25, e155_28, e155_29, e155_32, e155_33, e155_34, e155_37, e155_38, e155_41, e155_44, e155_45, e155_48, e155_49, e155_52, e155_53, k0.1, k1.1, k2.1, p1, p2, p3]
          · simp (disch := first | assumption | exact zrm0 | exact zrm1 _ | exact zrm2 _ _ | exact zrm3 _ _ _ | exact zrm4 _ _ _ _ | omega) only [m155, ↓k_dp, ↓k_dn, k_dp, k_dn, k_dT, k_dF, k_ip, k_in, if_true, if_false, ne_eq, not_true_eq_false, not_false_eq_true, Int.reduceAdd, zup_a, zup_e, zup_j, z32_id, k_ll1, k_al0, k_gR, k_gI, k_s3r, k_ic, k_icne, k_iceq, k_goto, k_rz, zb0_some, zb1_some, e155_0, e155_1, e155_2, e155_5, e155_6, e155_9, e155_12, e155_13, e155_16, e155_17, e155_18, e155_21, e155_22, e155_25, e155_28, e155_29, e155_32, e155_33, e155_34, e155_37, e155_38, e155_41, e155_44, e155_45, e155_48, e155_49, e155_52, e155_53, k0.1, k1.1, k2.1, p1, p2, p3]
        simp (disch := first | assumption | exact zrm0 | exact zrm1 _ | exact zrm2 _ _ | exact zrm3 _ _ _ | exact zrm4 _ _ _ _ | omega) only [m81, ↓k_dp, ↓k_dn, k_dp, k_dn, k_dT, k_dF, k_ip, k_in, if_true, if_false, ne_eq, not_true_eq_false, not_false_eq_true, Int.reduceAdd, zup_a, zup_e, zup_j, z32_id, k_al0, k_gR, k_gE, k_en, k_aceq, k_ic, k_v2r, k_rz, k_gL, k_ifeq, k_goto, zb0_some, zb1_some, e81_0, e81_1, e81_4, e81_7, e81_10, e81_13, e81_14, e81_17, e81_18, e81_21, e81_22, e81_23, e81_26, e81_27, e81_30, e81_33, e81_36, e81_39, e81_40, e81_43, e81_44, e81_47, e81_50, e81_51, e81_54, e81_55, ht, f1']
      · by_cases c1 : F1 = -1
        · rw [c1] at r1
          by_cases c2 : F2 = -1
          · rw [c2] at r2
            have c3 : F3 ≠ -1 := fun z => cn ⟨c1, c2, z⟩
            simp (disch := first | assumption | exact zrm0 | exact zrm1 _ | exact zrm2 _ _ | exact zrm3 _ _ _ | exact zrm4 _ _ _ _ | omega) only [m189, ↓k_dp, ↓k_dn, k_dp, k_dn, k_dT, k_dF, k_ip, k_in, if_true, if_false, ne_eq, not_true_eq_false, not_false_eq_true, Int.reduceAdd, zup_a, zup_e, zup_j, z32_id, k_al0, k_v1r, k_ifne, k_ic, k_v2r, k_rz, k_gR, k_ild, k_ildS, k_ildW, k_gL, k_s4r, k_icne, k_iceq, k_il1, k_lst, k_v1, zb0_some, zb1_some, e189_0, e189_1, e189_4, e189_7, e189_8, e189_9, e189_12, e189_13, e189_14, e189_17, e189_18, e189_19, e189_22, e189_23, e189_24, e189_25, e189_28, e189_31, e189_32, e189_35, e189_36, e189_39, e189_40, e189_41, e189_44, e189_45, e189_46, e189_47, e189_50, e189_53, e189_54, e189_57, e189_58, e189_61, e189_63, e189_64, e189_67, e189_68, e189_69, e189_70, e189_73, e189_76, e189_77, e189_80, e189_81, e189_82, e189_85, e189_86, e189_87, e189_90, e189_91, e189_92, e189_95, e189_96, e189_97, e189_100, e189_101, nm, r1, r2, r3, f2']
          · simp (disch := first | assumption | exact zrm0 | exact zrm1 _ | exact zrm2 _ _ | exact zrm3 _ _ _ | exact zrm4 _ _ _ _ | omega) only [m189, ↓k_dp, ↓k_dn, k_dp, k_dn, k_dT, k_dF, k_ip, k_in, if_true, if_false, ne_eq, not_true_eq_false, not_false_eq_true, Int.reduceAdd, zup_a, zup_e, zup_j, z32_id, k_al0, k_v1r, k_ifne, k_ic, k_v2r, k_rz, k_gR, k_ild, k_ildS, k_ildW, k_gL, k_s4r, k_icne, k_iceq, k_il1, k_lst, k_v1, zb0_some, zb1_some, e189_0, e189_1, e189_4, e189_7, e189_8, e189_9, e189_12, e189_13, e189_14, e189_17, e189_18, e189_19, e189_22, e189_23, e189_24, e189_25, e189_28, e189_31, e189_32, e189_35, e189_36, e189_39, e189_40, e189_41, e189_44, e189_45, e189_46, e189_47, e189_50, e189_53, e189_54, e189_57, e189_58, e189_61, e189_63, e189_64, e189_67, e189_68, e189_69, e189_70, e189_73, e189_76, e189_77, e189_80, e189_81, e189_82, e189_85, e189_86, e189_87, e189_90, e189_91, e189_92, e189_95, e189_96, e189_97, e189_100, e189_101, nm, r1, r2, r3, f2']
        · simp (disch := first | assumption | exact zrm0 | exact zrm1 _ | exact zrm2 _ _ | exact zrm3 _ _ _ | exact zrm4 _ _ _ _ | omega) only [m189, ↓k_dp, ↓k_dn, k_dp, k_dn, k_dT, k_dF, k_ip, k_in, if_true, if_false, ne_eq, not_true_eq_false, not_false_eq_true, Int.reduceAdd, zup_a, zup_e, zup_j, z32_id, k_al0, k_v1r, k_ifne, k_ic, k_v2r, k_rz, k_gR, k_ild, k_ildS, k_ildW, k_gL, k_s4r, k_icne, k_iceq, k_il1, k_lst, k_v1, zb0_some, zb1_some, e189_0, e189_1, e189_4, e189_7, e189_8, e189_9, e189_12, e189_13, e189_14, e189_17, e189_18, e189_19, e189_22, e189_23, e189_24, e189_25, e189_28, e189_31, e189_32, e189_35, e189_36, e189_39, e189_40, e189_41, e189_44, e189_45, e189_46, e189_47, e189_50, e189_53, e189_54, e189_57, e189_58, e189_61, e189_63, e189_64, e189_67, e189_68, e189_69, e189_70, e189_73, e189_76, e189_77, e189_80, e189_81, e189_82, e189_85, e189_86, e189_87, e189_90, e189_91, e189_92, e189_95, e189_96, e189_97, e189_100, e189_101, nm, r1, r2, r3, f2']
  · right
    rw [if_neg c] at nm
    obtain ⟨Af, Bf, f1, f2, f3, f4, f5⟩ := p_fail h (k := 1) (by omega) (by omega) (fun z => rfl)
    have f1' := f1 (d + 1) 0 0 (by omega)
    have f2' := f2 e y0 0 (by omega)
    refine ⟨Af, Bf, ?_, ?_, f3, f4, f5⟩
    · simp (disch := first | assumption | exact zrm0 | exact zrm1 _ | exact zrm2 _ _ | exact zrm3 _ _ _ | exact zrm4 _ _ _ _ | omega) only [m81, ↓k_dp, ↓k_dn, k_dp, k_dn, k_dT, k_dF, k_ip, k_in, if_true, if_false, ne_eq, not_true_eq_false, not_false_eq_true, Int.reduceAdd, zup_a, zup_e, zup_j, z32_id, k_al0, k_gR, k_gE, k_en, k_aceq, k_ic, k_v2r, k_rz, k_gL, k_ifeq, k_goto, zb0_some, zb1_some, e81_0, e81_1, e81_4, e81_7, e81_10, e81_13, e81_14, e81_17, e81_18, e81_21, e81_22, e81_23, e81_26, e81_27, e81_30, e81_33, e81_36, e81_39, e81_40, e81_43, e81_44, e81_47, e81_50, e81_51, e81_54, e81_55, f1']
    · simp (disch := first | assumption | exact zrm0 | exact zrm1 _ | exact zrm2 _ _ | exact zrm3 _ _ _ | exact zrm4 _ _ _ _ | omega) only [m189, ↓k_dp, ↓k_dn, k_dp, k_dn, k_dT, k_dF, k_ip, k_in, if_true, if_false, ne_eq, not_true_eq_false, not_false_eq_true, Int.reduceAdd, zup_a, zup_e, zup_j, z32_id, k_al0, k_v1r, k_ifne, k_ic, k_v2r, k_rz, k_gR, k_ild, k_ildS, k_ildW, k_gL, k_s4r, k_icne, k_iceq, k_il1, k_lst, k_v1, zb0_some, zb1_some, e189_0, e189_1, e189_4, e189_7, e189_8, e189_9, e189_12, e189_13, e189_14, e189_17, e189_18, e189_19, e189_22, e189_23, e189_24, e189_25, e189_28, e189_31, e189_32, e189_35, e189_36, e189_39, e189_40, e189_41, e189_44, e189_45, e189_46, e189_47, e189_50, e189_53, e189_54, e189_57, e189_58, e189_61, e189_63, e189_64, e189_67, e189_68, e189_69, e189_70, e189_73, e189_76, e189_77, e189_80, e189_81, e189_82, e189_85, e189_86, e189_87, e189_90, e189_91, e189_92, e189_95, e189_96, e189_97, e189_100, e189_101, nm, f2']
