/-! the fewest irons: the class -/
def dSh (g : Int → Int → Int) (r : Int → Int) (H : Int) : Nat → Int → Int → Int → Int
  | 0, _, _, _ => 0
  | j + 1, left, c, h => if h = H - (j + 1) then dN g r H j left c else dSh g r H j (left - dN g r H j left c) (c - g (H - (j + 1)) (dN g r H j left c)) h
def sNeed (S G : zM) (q : Int) : Int := sMax 1 (sWay S G (S 4 q) 1 + 1 - G 6 0)
def sLeast (S G : zM) (q : Int) : Int := zfnd (fun t => decide (sNeed S G q ≤ dL (gB S G q) (rB S G q) (G 0 7) (G 0 7).toNat t)) 201 0
theorem m73 (ph : Bool) (d : Nat) (a x0 p0 y0 p1 y1 p2 y2 : Int) (M : zM) : zEm ph (d + 1) 73 [(23, a, x0), (28, p0, y0), (26, p1, y1), (0, p2, y2)] M = zEv ph d 73 0 [(23, a, x0), (28, p0, y0), (26, p1, y1), (0, p2, y2), (3, 0, 0), (3, 0, 0)] [] M := rfl
theorem e73_0 (ph : Bool) (d : Nat) (L st : List zV) (M : zM) : zEv ph d 73 0 L st M = zcont ph d 73 (zstep ph (zEm ph d) 4 1 0 [0] L st M) := zEv_step rfl
theorem e73_1 (ph : Bool) (d : Nat) (L st : List zV) (M : zM) : zEv ph d 73 1 L st M = zcont ph d 73 (zstep ph (zEm ph d) 4 2 0 [2] L st M) := zEv_step rfl
theorem e73_2 (ph : Bool) (d : Nat) (L st : List zV) (M : zM) : zEv ph d 73 2 L st M = zcont ph d 73 (zstep ph (zEm ph d) 62 5 0 [26, 2, 3, 10, 5] L st M) := zEv_step rfl
theorem e73_5 (ph : Bool) (d : Nat) (L st : List zV) (M : zM) : zEv ph d 73 5 L st M = zcont ph d 73 (zstep ph (zEm ph d) 2 6 0 [3] L st M) := zEv_step rfl
theorem e73_6 (ph : Bool) (d : Nat) (L st : List zV) (M : zM) : zEv ph d 73 6 L st M = zcont ph d 73 (zstep ph (zEm ph d) 85 7 0 [] L st M) := zEv_step rfl
theorem e73_7 (ph : Bool) (d : Nat) (L st : List zV) (M : zM) : zEv ph d 73 7 L st M = zcont ph d 73 (zstep ph (zEm ph d) 65 10 0 [23, 2] L st M) := zEv_step rfl
theorem e73_10 (ph : Bool) (d : Nat) (L st : List zV) (M : zM) : zEv ph d 73 10 L st M = zcont ph d 73 (zstep ph (zEm ph d) 4 11 0 [2] L st M) := zEv_step rfl
theorem e73_11 (ph : Bool) (d : Nat) (L st : List zV) (M : zM) : zEv ph d 73 11 L st M = zcont ph d 73 (zstep ph (zEm ph d) 4 12 0 [1] L st M) := zEv_step rfl
theorem e73_12 (ph : Bool) (d : Nat) (L st : List zV) (M : zM) : zEv ph d 73 12 L st M = zcont ph d 73 (zstep ph (zEm ph d) 4 13 0 [2] L st M) := zEv_step rfl
theorem e73_13 (ph : Bool) (d : Nat) (L st : List zV) (M : zM) : zEv ph d 73 13 L st M = zcont ph d 73 (zstep ph (zEm ph d) 62 16 0 [26, 3, 4, 10, 5] L st M) := zEv_step rfl
theorem e73_16 (ph : Bool) (d : Nat) (L st : List zV) (M : zM) : zEv ph d 73 16 L st M = zcont ph d 73 (zstep ph (zEm ph d) 2 17 0 [3] L st M) := zEv_step rfl
theorem e73_17 (ph : Bool) (d : Nat) (L st : List zV) (M : zM) : zEv ph d 73 17 L st M = zcont ph d 73 (zstep ph (zEm ph d) 85 18 0 [] L st M) := zEv_step rfl
theorem e73_18 (ph : Bool) (d : Nat) (L st : List zV) (M : zM) : zEv ph d 73 18 L st M = zcont ph d 73 (zstep ph (zEm ph d) 0 19 0 [1] L st M) := zEv_step rfl
theorem e73_19 (ph : Bool) (d : Nat) (L st : List zV) (M : zM) : zEv ph d 73 19 L st M = zcont ph d 73 (zstep ph (zEm ph d) 70 22 119 [4, 1, 26] L st M) := zEv_step rfl
theorem e73_22 (ph : Bool) (d : Nat) (L st : List zV) (M : zM) : zEv ph d 73 22 L st M = zcont ph d 73 (zstep ph (zEm ph d) 5 24 0 [4] L st M) := zEv_step rfl
theorem e73_24 (ph : Bool) (d : Nat) (L st : List zV) (M : zM) : zEv ph d 73 24 L st M = zcont ph d 73 (zstep ph (zEm ph d) 4 25 0 [0] L st M) := zEv_step rfl
theorem e73_25 (ph : Bool) (d : Nat) (L st : List zV) (M : zM) : zEv ph d 73 25 L st M = zcont ph d 73 (zstep ph (zEm ph d) 0 26 0 [1] L st M) := zEv_step rfl
theorem e73_26 (ph : Bool) (d : Nat) (L st : List zV) (M : zM) : zEv ph d 73 26 L st M = zcont ph d 73 (zstep ph (zEm ph d) 2 28 0 [4] L st M) := zEv_step rfl
theorem e73_28 (ph : Bool) (d : Nat) (L st : List zV) (M : zM) : zEv ph d 73 28 L st M = zcont ph d 73 (zstep ph (zEm ph d) 0 29 0 [1] L st M) := zEv_step rfl
theorem e73_29 (ph : Bool) (d : Nat) (L st : List zV) (M : zM) : zEv ph d 73 29 L st M = zcont ph d 73 (zstep ph (zEm ph d) 10 30 0 [] L st M) := zEv_step rfl
theorem e73_30 (ph : Bool) (d : Nat) (L st : List zV) (M : zM) : zEv ph d 73 30 L st M = zcont ph d 73 (zstep ph (zEm ph d) 4 31 0 [1] L st M) := zEv_step rfl
theorem e73_31 (ph : Bool) (d : Nat) (L st : List zV) (M : zM) : zEv ph d 73 31 L st M = zcont ph d 73 (zstep ph (zEm ph d) 62 34 0 [28, 5, 6, 10, 2] L st M) := zEv_step rfl
theorem e73_34 (ph : Bool) (d : Nat) (L st : List zV) (M : zM) : zEv ph d 73 34 L st M = zcont ph d 73 (zstep ph (zEm ph d) 0 35 0 [0] L st M) := zEv_step rfl
theorem e73_35 (ph : Bool) (d : Nat) (L st : List zV) (M : zM) : zEv ph d 73 35 L st M = zcont ph d 73 (zstep ph (zEm ph d) 85 36 0 [] L st M) := zEv_step rfl
theorem e73_36 (ph : Bool) (d : Nat) (L st : List zV) (M : zM) : zEv ph d 73 36 L st M = zcont ph d 73 (zstep ph (zEm ph d) 11 37 0 [] L st M) := zEv_step rfl
theorem e73_37 (ph : Bool) (d : Nat) (L st : List zV) (M : zM) : zEv ph d 73 37 L st M = zcont ph d 73 (zstep ph (zEm ph d) 71 40 0 [] L st M) := zEv_step rfl
theorem e73_40 (ph : Bool) (d : Nat) (L st : List zV) (M : zM) : zEv ph d 73 40 L st M = zcont ph d 73 (zstep ph (zEm ph d) 65 43 0 [23, 3] L st M) := zEv_step rfl
theorem e73_43 (ph : Bool) (d : Nat) (L st : List zV) (M : zM) : zEv ph d 73 43 L st M = zcont ph d 73 (zstep ph (zEm ph d) 4 44 0 [0] L st M) := zEv_step rfl
theorem e73_44 (ph : Bool) (d : Nat) (L st : List zV) (M : zM) : zEv ph d 73 44 L st M = zcont ph d 73 (zstep ph (zEm ph d) 4 45 0 [1] L st M) := zEv_step rfl
theorem e73_45 (ph : Bool) (d : Nat) (L st : List zV) (M : zM) : zEv ph d 73 45 L st M = zcont ph d 73 (zstep ph (zEm ph d) 4 46 0 [2] L st M) := zEv_step rfl
theorem e73_46 (ph : Bool) (d : Nat) (L st : List zV) (M : zM) : zEv ph d 73 46 L st M = zcont ph d 73 (zstep ph (zEm ph d) 70 49 74 [3, 0, 23] L st M) := zEv_step rfl
theorem e73_49 (ph : Bool) (d : Nat) (L st : List zV) (M : zM) : zEv ph d 73 49 L st M = zcont ph d 73 (zstep ph (zEm ph d) 4 50 0 [0] L st M) := zEv_step rfl
theorem e73_50 (ph : Bool) (d : Nat) (L st : List zV) (M : zM) : zEv ph d 73 50 L st M = zcont ph d 73 (zstep ph (zEm ph d) 4 51 0 [1] L st M) := zEv_step rfl
theorem e73_51 (ph : Bool) (d : Nat) (L st : List zV) (M : zM) : zEv ph d 73 51 L st M = zcont ph d 73 (zstep ph (zEm ph d) 4 52 0 [2] L st M) := zEv_step rfl
theorem e73_52 (ph : Bool) (d : Nat) (L st : List zV) (M : zM) : zEv ph d 73 52 L st M = zcont ph d 73 (zstep ph (zEm ph d) 70 55 76 [3, 0, 23] L st M) := zEv_step rfl
theorem e73_55 (ph : Bool) (d : Nat) (L st : List zV) (M : zM) : zEv ph d 73 55 L st M = zcont ph d 73 (zstep ph (zEm ph d) 0 56 0 [0] L st M) := zEv_step rfl
theorem e73_56 (ph : Bool) (d : Nat) (L st : List zV) (M : zM) : zEv ph d 73 56 L st M = zcont ph d 73 (zstep ph (zEm ph d) 5 58 0 [5] L st M) := zEv_step rfl
theorem e73_58 (ph : Bool) (d : Nat) (L st : List zV) (M : zM) : zEv ph d 73 58 L st M = zcont ph d 73 (zstep ph (zEm ph d) 2 60 0 [5] L st M) := zEv_step rfl
theorem e73_60 (ph : Bool) (d : Nat) (L st : List zV) (M : zM) : zEv ph d 73 60 L st M = zcont ph d 73 (zstep ph (zEm ph d) 0 63 0 [200] L st M) := zEv_step rfl
theorem e73_63 (ph : Bool) (d : Nat) (L st : List zV) (M : zM) : zEv ph d 73 63 L st M = zcont ph d 73 (zstep ph (zEm ph d) 50 66 89 [] L st M) := zEv_step rfl
theorem e73_66 (ph : Bool) (d : Nat) (L st : List zV) (M : zM) : zEv ph d 73 66 L st M = zcont ph d 73 (zstep ph (zEm ph d) 4 67 0 [0] L st M) := zEv_step rfl
theorem e73_67 (ph : Bool) (d : Nat) (L st : List zV) (M : zM) : zEv ph d 73 67 L st M = zcont ph d 73 (zstep ph (zEm ph d) 62 70 0 [23, 0, 1, 10, 2211] L st M) := zEv_step rfl
theorem e73_70 (ph : Bool) (d : Nat) (L st : List zV) (M : zM) : zEv ph d 73 70 L st M = zcont ph d 73 (zstep ph (zEm ph d) 2 72 0 [5] L st M) := zEv_step rfl
theorem e73_72 (ph : Bool) (d : Nat) (L st : List zV) (M : zM) : zEv ph d 73 72 L st M = zcont ph d 73 (zstep ph (zEm ph d) 85 73 0 [] L st M) := zEv_step rfl
theorem e73_73 (ph : Bool) (d : Nat) (L st : List zV) (M : zM) : zEv ph d 73 73 L st M = zcont ph d 73 (zstep ph (zEm ph d) 4 74 0 [0] L st M) := zEv_step rfl
theorem e73_74 (ph : Bool) (d : Nat) (L st : List zV) (M : zM) : zEv ph d 73 74 L st M = zcont ph d 73 (zstep ph (zEm ph d) 60 77 0 [23, 3] L st M) := zEv_step rfl
theorem e73_77 (ph : Bool) (d : Nat) (L st : List zV) (M : zM) : zEv ph d 73 77 L st M = zcont ph d 73 (zstep ph (zEm ph d) 48 80 83 [] L st M) := zEv_step rfl
theorem e73_80 (ph : Bool) (d : Nat) (L st : List zV) (M : zM) : zEv ph d 73 80 L st M = zcont ph d 73 (zstep ph (zEm ph d) 2 82 0 [5] L st M) := zEv_step rfl
theorem e73_82 (ph : Bool) (d : Nat) (L st : List zV) (M : zM) : zEv ph d 73 82 L st M = zcont ph d 73 (zstep ph (zEm ph d) 80 83 0 [] L st M) := zEv_step rfl
theorem e73_83 (ph : Bool) (d : Nat) (L st : List zV) (M : zM) : zEv ph d 73 83 L st M = zcont ph d 73 (zstep ph (zEm ph d) 8 86 0 [5, 1] L st M) := zEv_step rfl
theorem e73_86 (ph : Bool) (d : Nat) (L st : List zV) (M : zM) : zEv ph d 73 86 L st M = zcont ph d 73 (zstep ph (zEm ph d) 52 89 58 [] L st M) := zEv_step rfl
theorem e73_89 (ph : Bool) (d : Nat) (L st : List zV) (M : zM) : zEv ph d 73 89 L st M = zcont ph d 73 (zstep ph (zEm ph d) 0 90 0 [-1] L st M) := zEv_step rfl
theorem e73_90 (ph : Bool) (d : Nat) (L st : List zV) (M : zM) : zEv ph d 73 90 L st M = zcont ph d 73 (zstep ph (zEm ph d) 80 91 0 [] L st M) := zEv_step rfl
theorem m77 (ph : Bool) (d : Nat) (a x0 p0 y0 p1 y1 p2 y2 p3 y3 : Int) (M : zM) : zEm ph (d + 1) 77 [(23, a, x0), (28, p0, y0), (26, p1, y1), (0, p2, y2), (10, p3, y3)] M = zEv ph d 77 0 [(23, a, x0), (28, p0, y0), (26, p1, y1), (0, p2, y2), (10, p3, y3), (3, 0, 0), (3, 0, 0), (3, 0, 0), (3, 0, 0)] [] M := rfl
theorem e77_0 (ph : Bool) (d : Nat) (L st : List zV) (M : zM) : zEv ph d 77 0 L st M = zcont ph d 77 (zstep ph (zEm ph d) 2 1 0 [3] L st M) := zEv_step rfl
theorem e77_1 (ph : Bool) (d : Nat) (L st : List zV) (M : zM) : zEv ph d 77 1 L st M = zcont ph d 77 (zstep ph (zEm ph d) 5 3 0 [5] L st M) := zEv_step rfl
theorem e77_3 (ph : Bool) (d : Nat) (L st : List zV) (M : zM) : zEv ph d 77 3 L st M = zcont ph d 77 (zstep ph (zEm ph d) 4 4 0 [0] L st M) := zEv_step rfl
theorem e77_4 (ph : Bool) (d : Nat) (L st : List zV) (M : zM) : zEv ph d 77 4 L st M = zcont ph d 77 (zstep ph (zEm ph d) 60 7 0 [23, 3] L st M) := zEv_step rfl
theorem e77_7 (ph : Bool) (d : Nat) (L st : List zV) (M : zM) : zEv ph d 77 7 L st M = zcont ph d 77 (zstep ph (zEm ph d) 5 9 0 [6] L st M) := zEv_step rfl
theorem e77_9 (ph : Bool) (d : Nat) (L st : List zV) (M : zM) : zEv ph d 77 9 L st M = zcont ph d 77 (zstep ph (zEm ph d) 0 10 0 [0] L st M) := zEv_step rfl
theorem e77_10 (ph : Bool) (d : Nat) (L st : List zV) (M : zM) : zEv ph d 77 10 L st M = zcont ph d 77 (zstep ph (zEm ph d) 5 12 0 [7] L st M) := zEv_step rfl
theorem e77_12 (ph : Bool) (d : Nat) (L st : List zV) (M : zM) : zEv ph d 77 12 L st M = zcont ph d 77 (zstep ph (zEm ph d) 2 14 0 [7] L st M) := zEv_step rfl
theorem e77_14 (ph : Bool) (d : Nat) (L st : List zV) (M : zM) : zEv ph d 77 14 L st M = zcont ph d 77 (zstep ph (zEm ph d) 4 15 0 [1] L st M) := zEv_step rfl
theorem e77_15 (ph : Bool) (d : Nat) (L st : List zV) (M : zM) : zEv ph d 77 15 L st M = zcont ph d 77 (zstep ph (zEm ph d) 60 18 0 [28, 7] L st M) := zEv_step rfl
theorem e77_18 (ph : Bool) (d : Nat) (L st : List zV) (M : zM) : zEv ph d 77 18 L st M = zcont ph d 77 (zstep ph (zEm ph d) 49 21 127 [] L st M) := zEv_step rfl
theorem e77_21 (ph : Bool) (d : Nat) (L st : List zV) (M : zM) : zEv ph d 77 21 L st M = zcont ph d 77 (zstep ph (zEm ph d) 2 23 0 [7] L st M) := zEv_step rfl
theorem e77_23 (ph : Bool) (d : Nat) (L st : List zV) (M : zM) : zEv ph d 77 23 L st M = zcont ph d 77 (zstep ph (zEm ph d) 4 25 0 [4] L st M) := zEv_step rfl
theorem e77_25 (ph : Bool) (d : Nat) (L st : List zV) (M : zM) : zEv ph d 77 25 L st M = zcont ph d 77 (zstep ph (zEm ph d) 84 26 0 [] L st M) := zEv_step rfl
theorem e77_26 (ph : Bool) (d : Nat) (L st : List zV) (M : zM) : zEv ph d 77 26 L st M = zcont ph d 77 (zstep ph (zEm ph d) 49 29 127 [] L st M) := zEv_step rfl
theorem e77_29 (ph : Bool) (d : Nat) (L st : List zV) (M : zM) : zEv ph d 77 29 L st M = zcont ph d 77 (zstep ph (zEm ph d) 0 30 0 [0] L st M) := zEv_step rfl
theorem e77_30 (ph : Bool) (d : Nat) (L st : List zV) (M : zM) : zEv ph d 77 30 L st M = zcont ph d 77 (zstep ph (zEm ph d) 5 32 0 [8] L st M) := zEv_step rfl
theorem e77_32 (ph : Bool) (d : Nat) (L st : List zV) (M : zM) : zEv ph d 77 32 L st M = zcont ph d 77 (zstep ph (zEm ph d) 2 34 0 [8] L st M) := zEv_step rfl
theorem e77_34 (ph : Bool) (d : Nat) (L st : List zV) (M : zM) : zEv ph d 77 34 L st M = zcont ph d 77 (zstep ph (zEm ph d) 4 35 0 [0] L st M) := zEv_step rfl
theorem e77_35 (ph : Bool) (d : Nat) (L st : List zV) (M : zM) : zEv ph d 77 35 L st M = zcont ph d 77 (zstep ph (zEm ph d) 62 38 0 [23, 1, 2, 10, 10] L st M) := zEv_step rfl
theorem e77_38 (ph : Bool) (d : Nat) (L st : List zV) (M : zM) : zEv ph d 77 38 L st M = zcont ph d 77 (zstep ph (zEm ph d) 2 40 0 [7] L st M) := zEv_step rfl
theorem e77_40 (ph : Bool) (d : Nat) (L st : List zV) (M : zM) : zEv ph d 77 40 L st M = zcont ph d 77 (zstep ph (zEm ph d) 85 41 0 [] L st M) := zEv_step rfl
theorem e77_41 (ph : Bool) (d : Nat) (L st : List zV) (M : zM) : zEv ph d 77 41 L st M = zcont ph d 77 (zstep ph (zEm ph d) 49 44 92 [] L st M) := zEv_step rfl
theorem e77_44 (ph : Bool) (d : Nat) (L st : List zV) (M : zM) : zEv ph d 77 44 L st M = zcont ph d 77 (zstep ph (zEm ph d) 2 46 0 [8] L st M) := zEv_step rfl
theorem e77_46 (ph : Bool) (d : Nat) (L st : List zV) (M : zM) : zEv ph d 77 46 L st M = zcont ph d 77 (zstep ph (zEm ph d) 2 48 0 [5] L st M) := zEv_step rfl
theorem e77_48 (ph : Bool) (d : Nat) (L st : List zV) (M : zM) : zEv ph d 77 48 L st M = zcont ph d 77 (zstep ph (zEm ph d) 49 51 92 [] L st M) := zEv_step rfl
theorem e77_51 (ph : Bool) (d : Nat) (L st : List zV) (M : zM) : zEv ph d 77 51 L st M = zcont ph d 77 (zstep ph (zEm ph d) 4 52 0 [0] L st M) := zEv_step rfl
theorem e77_52 (ph : Bool) (d : Nat) (L st : List zV) (M : zM) : zEv ph d 77 52 L st M = zcont ph d 77 (zstep ph (zEm ph d) 4 53 0 [1] L st M) := zEv_step rfl
theorem e77_53 (ph : Bool) (d : Nat) (L st : List zV) (M : zM) : zEv ph d 77 53 L st M = zcont ph d 77 (zstep ph (zEm ph d) 4 54 0 [2] L st M) := zEv_step rfl
theorem e77_54 (ph : Bool) (d : Nat) (L st : List zV) (M : zM) : zEv ph d 77 54 L st M = zcont ph d 77 (zstep ph (zEm ph d) 2 56 0 [7] L st M) := zEv_step rfl
theorem e77_56 (ph : Bool) (d : Nat) (L st : List zV) (M : zM) : zEv ph d 77 56 L st M = zcont ph d 77 (zstep ph (zEm ph d) 2 58 0 [8] L st M) := zEv_step rfl
theorem e77_58 (ph : Bool) (d : Nat) (L st : List zV) (M : zM) : zEv ph d 77 58 L st M = zcont ph d 77 (zstep ph (zEm ph d) 70 61 75 [5, 1, 23] L st M) := zEv_step rfl
theorem e77_61 (ph : Bool) (d : Nat) (L st : List zV) (M : zM) : zEv ph d 77 61 L st M = zcont ph d 77 (zstep ph (zEm ph d) 4 62 0 [0] L st M) := zEv_step rfl
theorem e77_62 (ph : Bool) (d : Nat) (L st : List zV) (M : zM) : zEv ph d 77 62 L st M = zcont ph d 77 (zstep ph (zEm ph d) 62 65 0 [23, 0, 1, 10, 2211] L st M) := zEv_step rfl
theorem e77_65 (ph : Bool) (d : Nat) (L st : List zV) (M : zM) : zEv ph d 77 65 L st M = zcont ph d 77 (zstep ph (zEm ph d) 2 67 0 [7] L st M) := zEv_step rfl
theorem e77_67 (ph : Bool) (d : Nat) (L st : List zV) (M : zM) : zEv ph d 77 67 L st M = zcont ph d 77 (zstep ph (zEm ph d) 0 68 0 [1] L st M) := zEv_step rfl
theorem e77_68 (ph : Bool) (d : Nat) (L st : List zV) (M : zM) : zEv ph d 77 68 L st M = zcont ph d 77 (zstep ph (zEm ph d) 10 69 0 [] L st M) := zEv_step rfl
theorem e77_69 (ph : Bool) (d : Nat) (L st : List zV) (M : zM) : zEv ph d 77 69 L st M = zcont ph d 77 (zstep ph (zEm ph d) 0 72 0 [201] L st M) := zEv_step rfl
theorem e77_72 (ph : Bool) (d : Nat) (L st : List zV) (M : zM) : zEv ph d 77 72 L st M = zcont ph d 77 (zstep ph (zEm ph d) 12 73 0 [] L st M) := zEv_step rfl
theorem e77_73 (ph : Bool) (d : Nat) (L st : List zV) (M : zM) : zEv ph d 77 73 L st M = zcont ph d 77 (zstep ph (zEm ph d) 2 75 0 [5] L st M) := zEv_step rfl
theorem e77_75 (ph : Bool) (d : Nat) (L st : List zV) (M : zM) : zEv ph d 77 75 L st M = zcont ph d 77 (zstep ph (zEm ph d) 10 76 0 [] L st M) := zEv_step rfl
theorem e77_76 (ph : Bool) (d : Nat) (L st : List zV) (M : zM) : zEv ph d 77 76 L st M = zcont ph d 77 (zstep ph (zEm ph d) 2 78 0 [8] L st M) := zEv_step rfl
theorem e77_78 (ph : Bool) (d : Nat) (L st : List zV) (M : zM) : zEv ph d 77 78 L st M = zcont ph d 77 (zstep ph (zEm ph d) 11 79 0 [] L st M) := zEv_step rfl
theorem e77_79 (ph : Bool) (d : Nat) (L st : List zV) (M : zM) : zEv ph d 77 79 L st M = zcont ph d 77 (zstep ph (zEm ph d) 85 80 0 [] L st M) := zEv_step rfl
theorem e77_80 (ph : Bool) (d : Nat) (L st : List zV) (M : zM) : zEv ph d 77 80 L st M = zcont ph d 77 (zstep ph (zEm ph d) 10 81 0 [] L st M) := zEv_step rfl
theorem e77_81 (ph : Bool) (d : Nat) (L st : List zV) (M : zM) : zEv ph d 77 81 L st M = zcont ph d 77 (zstep ph (zEm ph d) 2 83 0 [6] L st M) := zEv_step rfl
theorem e77_83 (ph : Bool) (d : Nat) (L st : List zV) (M : zM) : zEv ph d 77 83 L st M = zcont ph d 77 (zstep ph (zEm ph d) 49 86 92 [] L st M) := zEv_step rfl
theorem e77_86 (ph : Bool) (d : Nat) (L st : List zV) (M : zM) : zEv ph d 77 86 L st M = zcont ph d 77 (zstep ph (zEm ph d) 8 89 0 [8, 1] L st M) := zEv_step rfl
theorem e77_89 (ph : Bool) (d : Nat) (L st : List zV) (M : zM) : zEv ph d 77 89 L st M = zcont ph d 77 (zstep ph (zEm ph d) 52 92 32 [] L st M) := zEv_step rfl
theorem e77_92 (ph : Bool) (d : Nat) (L st : List zV) (M : zM) : zEv ph d 77 92 L st M = zcont ph d 77 (zstep ph (zEm ph d) 4 94 0 [4] L st M) := zEv_step rfl
theorem e77_94 (ph : Bool) (d : Nat) (L st : List zV) (M : zM) : zEv ph d 77 94 L st M = zcont ph d 77 (zstep ph (zEm ph d) 2 96 0 [7] L st M) := zEv_step rfl
theorem e77_96 (ph : Bool) (d : Nat) (L st : List zV) (M : zM) : zEv ph d 77 96 L st M = zcont ph d 77 (zstep ph (zEm ph d) 2 98 0 [8] L st M) := zEv_step rfl
theorem e77_98 (ph : Bool) (d : Nat) (L st : List zV) (M : zM) : zEv ph d 77 98 L st M = zcont ph d 77 (zstep ph (zEm ph d) 89 99 0 [] L st M) := zEv_step rfl
theorem e77_99 (ph : Bool) (d : Nat) (L st : List zV) (M : zM) : zEv ph d 77 99 L st M = zcont ph d 77 (zstep ph (zEm ph d) 2 101 0 [5] L st M) := zEv_step rfl
theorem e77_101 (ph : Bool) (d : Nat) (L st : List zV) (M : zM) : zEv ph d 77 101 L st M = zcont ph d 77 (zstep ph (zEm ph d) 2 103 0 [8] L st M) := zEv_step rfl
theorem e77_103 (ph : Bool) (d : Nat) (L st : List zV) (M : zM) : zEv ph d 77 103 L st M = zcont ph d 77 (zstep ph (zEm ph d) 11 104 0 [] L st M) := zEv_step rfl
theorem e77_104 (ph : Bool) (d : Nat) (L st : List zV) (M : zM) : zEv ph d 77 104 L st M = zcont ph d 77 (zstep ph (zEm ph d) 5 106 0 [5] L st M) := zEv_step rfl
theorem e77_106 (ph : Bool) (d : Nat) (L st : List zV) (M : zM) : zEv ph d 77 106 L st M = zcont ph d 77 (zstep ph (zEm ph d) 2 108 0 [6] L st M) := zEv_step rfl
theorem e77_108 (ph : Bool) (d : Nat) (L st : List zV) (M : zM) : zEv ph d 77 108 L st M = zcont ph d 77 (zstep ph (zEm ph d) 4 109 0 [0] L st M) := zEv_step rfl
theorem e77_109 (ph : Bool) (d : Nat) (L st : List zV) (M : zM) : zEv ph d 77 109 L st M = zcont ph d 77 (zstep ph (zEm ph d) 4 110 0 [1] L st M) := zEv_step rfl
theorem e77_110 (ph : Bool) (d : Nat) (L st : List zV) (M : zM) : zEv ph d 77 110 L st M = zcont ph d 77 (zstep ph (zEm ph d) 4 111 0 [2] L st M) := zEv_step rfl
theorem e77_111 (ph : Bool) (d : Nat) (L st : List zV) (M : zM) : zEv ph d 77 111 L st M = zcont ph d 77 (zstep ph (zEm ph d) 2 113 0 [7] L st M) := zEv_step rfl
theorem e77_113 (ph : Bool) (d : Nat) (L st : List zV) (M : zM) : zEv ph d 77 113 L st M = zcont ph d 77 (zstep ph (zEm ph d) 2 115 0 [8] L st M) := zEv_step rfl
theorem e77_115 (ph : Bool) (d : Nat) (L st : List zV) (M : zM) : zEv ph d 77 115 L st M = zcont ph d 77 (zstep ph (zEm ph d) 70 118 75 [5, 1, 23] L st M) := zEv_step rfl
theorem e77_118 (ph : Bool) (d : Nat) (L st : List zV) (M : zM) : zEv ph d 77 118 L st M = zcont ph d 77 (zstep ph (zEm ph d) 11 119 0 [] L st M) := zEv_step rfl
theorem e77_119 (ph : Bool) (d : Nat) (L st : List zV) (M : zM) : zEv ph d 77 119 L st M = zcont ph d 77 (zstep ph (zEm ph d) 5 121 0 [6] L st M) := zEv_step rfl
theorem e77_121 (ph : Bool) (d : Nat) (L st : List zV) (M : zM) : zEv ph d 77 121 L st M = zcont ph d 77 (zstep ph (zEm ph d) 8 124 0 [7, 1] L st M) := zEv_step rfl
theorem e77_124 (ph : Bool) (d : Nat) (L st : List zV) (M : zM) : zEv ph d 77 124 L st M = zcont ph d 77 (zstep ph (zEm ph d) 52 127 12 [] L st M) := zEv_step rfl
theorem e77_127 (ph : Bool) (d : Nat) (L st : List zV) (M : zM) : zEv ph d 77 127 L st M = zcont ph d 77 (zstep ph (zEm ph d) 83 128 0 [] L st M) := zEv_step rfl
theorem m27 (ph : Bool) (d : Nat) (a x0 p0 y0 : Int) (M : zM) : zEm ph (d + 1) 27 [(29, a, x0), (0, p0, y0)] M = zEv ph d 27 0 [(29, a, x0), (0, p0, y0), (3, 0, 0)] [] M := rfl
theorem e27_0 (ph : Bool) (d : Nat) (L st : List zV) (M : zM) : zEv ph d 27 0 L st M = zcont ph d 27 (zstep ph (zEm ph d) 4 1 0 [0] L st M) := zEv_step rfl
theorem e27_1 (ph : Bool) (d : Nat) (L st : List zV) (M : zM) : zEv ph d 27 1 L st M = zcont ph d 27 (zstep ph (zEm ph d) 2 2 0 [1] L st M) := zEv_step rfl
theorem e27_2 (ph : Bool) (d : Nat) (L st : List zV) (M : zM) : zEv ph d 27 2 L st M = zcont ph d 27 (zstep ph (zEm ph d) 70 5 47 [2, 1, 29] L st M) := zEv_step rfl
theorem e27_5 (ph : Bool) (d : Nat) (L st : List zV) (M : zM) : zEv ph d 27 5 L st M = zcont ph d 27 (zstep ph (zEm ph d) 41 8 10 [] L st M) := zEv_step rfl
theorem e27_8 (ph : Bool) (d : Nat) (L st : List zV) (M : zM) : zEv ph d 27 8 L st M = zcont ph d 27 (zstep ph (zEm ph d) 0 9 0 [-1] L st M) := zEv_step rfl
theorem e27_9 (ph : Bool) (d : Nat) (L st : List zV) (M : zM) : zEv ph d 27 9 L st M = zcont ph d 27 (zstep ph (zEm ph d) 80 10 0 [] L st M) := zEv_step rfl
theorem e27_10 (ph : Bool) (d : Nat) (L st : List zV) (M : zM) : zEv ph d 27 10 L st M = zcont ph d 27 (zstep ph (zEm ph d) 4 11 0 [0] L st M) := zEv_step rfl
theorem e27_11 (ph : Bool) (d : Nat) (L st : List zV) (M : zM) : zEv ph d 27 11 L st M = zcont ph d 27 (zstep ph (zEm ph d) 62 14 0 [29, 6, 56, 23, 0] L st M) := zEv_step rfl
theorem e27_14 (ph : Bool) (d : Nat) (L st : List zV) (M : zM) : zEv ph d 27 14 L st M = zcont ph d 27 (zstep ph (zEm ph d) 4 15 0 [0] L st M) := zEv_step rfl
theorem e27_15 (ph : Bool) (d : Nat) (L st : List zV) (M : zM) : zEv ph d 27 15 L st M = zcont ph d 27 (zstep ph (zEm ph d) 62 18 0 [29, 2, 30, 28, 0] L st M) := zEv_step rfl
theorem e27_18 (ph : Bool) (d : Nat) (L st : List zV) (M : zM) : zEv ph d 27 18 L st M = zcont ph d 27 (zstep ph (zEm ph d) 4 19 0 [0] L st M) := zEv_step rfl
theorem e27_19 (ph : Bool) (d : Nat) (L st : List zV) (M : zM) : zEv ph d 27 19 L st M = zcont ph d 27 (zstep ph (zEm ph d) 62 22 0 [29, 3, 37, 26, 0] L st M) := zEv_step rfl
theorem e27_22 (ph : Bool) (d : Nat) (L st : List zV) (M : zM) : zEv ph d 27 22 L st M = zcont ph d 27 (zstep ph (zEm ph d) 2 23 0 [1] L st M) := zEv_step rfl
theorem e27_23 (ph : Bool) (d : Nat) (L st : List zV) (M : zM) : zEv ph d 27 23 L st M = zcont ph d 27 (zstep ph (zEm ph d) 70 26 73 [4, 1, 23] L st M) := zEv_step rfl
theorem e27_26 (ph : Bool) (d : Nat) (L st : List zV) (M : zM) : zEv ph d 27 26 L st M = zcont ph d 27 (zstep ph (zEm ph d) 5 27 0 [2] L st M) := zEv_step rfl
theorem e27_27 (ph : Bool) (d : Nat) (L st : List zV) (M : zM) : zEv ph d 27 27 L st M = zcont ph d 27 (zstep ph (zEm ph d) 2 28 0 [2] L st M) := zEv_step rfl
theorem e27_28 (ph : Bool) (d : Nat) (L st : List zV) (M : zM) : zEv ph d 27 28 L st M = zcont ph d 27 (zstep ph (zEm ph d) 0 29 0 [-1] L st M) := zEv_step rfl
theorem e27_29 (ph : Bool) (d : Nat) (L st : List zV) (M : zM) : zEv ph d 27 29 L st M = zcont ph d 27 (zstep ph (zEm ph d) 47 32 34 [] L st M) := zEv_step rfl
theorem e27_32 (ph : Bool) (d : Nat) (L st : List zV) (M : zM) : zEv ph d 27 32 L st M = zcont ph d 27 (zstep ph (zEm ph d) 0 33 0 [-1] L st M) := zEv_step rfl
theorem e27_33 (ph : Bool) (d : Nat) (L st : List zV) (M : zM) : zEv ph d 27 33 L st M = zcont ph d 27 (zstep ph (zEm ph d) 80 34 0 [] L st M) := zEv_step rfl
theorem e27_34 (ph : Bool) (d : Nat) (L st : List zV) (M : zM) : zEv ph d 27 34 L st M = zcont ph d 27 (zstep ph (zEm ph d) 4 35 0 [0] L st M) := zEv_step rfl
theorem e27_35 (ph : Bool) (d : Nat) (L st : List zV) (M : zM) : zEv ph d 27 35 L st M = zcont ph d 27 (zstep ph (zEm ph d) 62 38 0 [29, 6, 56, 23, 0] L st M) := zEv_step rfl
theorem e27_38 (ph : Bool) (d : Nat) (L st : List zV) (M : zM) : zEv ph d 27 38 L st M = zcont ph d 27 (zstep ph (zEm ph d) 4 39 0 [0] L st M) := zEv_step rfl
theorem e27_39 (ph : Bool) (d : Nat) (L st : List zV) (M : zM) : zEv ph d 27 39 L st M = zcont ph d 27 (zstep ph (zEm ph d) 62 42 0 [29, 2, 30, 28, 0] L st M) := zEv_step rfl
theorem e27_42 (ph : Bool) (d : Nat) (L st : List zV) (M : zM) : zEv ph d 27 42 L st M = zcont ph d 27 (zstep ph (zEm ph d) 4 43 0 [0] L st M) := zEv_step rfl
theorem e27_43 (ph : Bool) (d : Nat) (L st : List zV) (M : zM) : zEv ph d 27 43 L st M = zcont ph d 27 (zstep ph (zEm ph d) 62 46 0 [29, 3, 37, 26, 0] L st M) := zEv_step rfl
theorem e27_46 (ph : Bool) (d : Nat) (L st : List zV) (M : zM) : zEv ph d 27 46 L st M = zcont ph d 27 (zstep ph (zEm ph d) 2 47 0 [2] L st M) := zEv_step rfl
theorem e27_47 (ph : Bool) (d : Nat) (L st : List zV) (M : zM) : zEv ph d 27 47 L st M = zcont ph d 27 (zstep ph (zEm ph d) 4 48 0 [0] L st M) := zEv_step rfl
theorem e27_48 (ph : Bool) (d : Nat) (L st : List zV) (M : zM) : zEv ph d 27 48 L st M = zcont ph d 27 (zstep ph (zEm ph d) 62 51 0 [29, 5, 51, 22, 0] L st M) := zEv_step rfl
theorem e27_51 (ph : Bool) (d : Nat) (L st : List zV) (M : zM) : zEv ph d 27 51 L st M = zcont ph d 27 (zstep ph (zEm ph d) 62 54 0 [22, 3, 1, 10, 10] L st M) := zEv_step rfl
theorem e27_54 (ph : Bool) (d : Nat) (L st : List zV) (M : zM) : zEv ph d 27 54 L st M = zcont ph d 27 (zstep ph (zEm ph d) 70 57 77 [5, 0, 23] L st M) := zEv_step rfl
theorem e27_57 (ph : Bool) (d : Nat) (L st : List zV) (M : zM) : zEv ph d 27 57 L st M = zcont ph d 27 (zstep ph (zEm ph d) 4 58 0 [0] L st M) := zEv_step rfl
theorem e27_58 (ph : Bool) (d : Nat) (L st : List zV) (M : zM) : zEv ph d 27 58 L st M = zcont ph d 27 (zstep ph (zEm ph d) 62 61 0 [29, 5, 51, 22, 0] L st M) := zEv_step rfl
theorem e27_61 (ph : Bool) (d : Nat) (L st : List zV) (M : zM) : zEv ph d 27 61 L st M = zcont ph d 27 (zstep ph (zEm ph d) 4 62 0 [0] L st M) := zEv_step rfl
theorem e27_62 (ph : Bool) (d : Nat) (L st : List zV) (M : zM) : zEv ph d 27 62 L st M = zcont ph d 27 (zstep ph (zEm ph d) 62 65 0 [29, 2, 30, 28, 0] L st M) := zEv_step rfl
theorem e27_65 (ph : Bool) (d : Nat) (L st : List zV) (M : zM) : zEv ph d 27 65 L st M = zcont ph d 27 (zstep ph (zEm ph d) 60 68 0 [28, 7] L st M) := zEv_step rfl
theorem e27_68 (ph : Bool) (d : Nat) (L st : List zV) (M : zM) : zEv ph d 27 68 L st M = zcont ph d 27 (zstep ph (zEm ph d) 65 71 0 [22, 4] L st M) := zEv_step rfl
theorem e27_71 (ph : Bool) (d : Nat) (L st : List zV) (M : zM) : zEv ph d 27 71 L st M = zcont ph d 27 (zstep ph (zEm ph d) 2 72 0 [2] L st M) := zEv_step rfl
theorem e27_72 (ph : Bool) (d : Nat) (L st : List zV) (M : zM) : zEv ph d 27 72 L st M = zcont ph d 27 (zstep ph (zEm ph d) 4 73 0 [0] L st M) := zEv_step rfl
theorem e27_73 (ph : Bool) (d : Nat) (L st : List zV) (M : zM) : zEv ph d 27 73 L st M = zcont ph d 27 (zstep ph (zEm ph d) 62 76 0 [29, 2, 30, 28, 0] L st M) := zEv_step rfl
theorem e27_76 (ph : Bool) (d : Nat) (L st : List zV) (M : zM) : zEv ph d 27 76 L st M = zcont ph d 27 (zstep ph (zEm ph d) 60 79 0 [28, 10] L st M) := zEv_step rfl
theorem e27_79 (ph : Bool) (d : Nat) (L st : List zV) (M : zM) : zEv ph d 27 79 L st M = zcont ph d 27 (zstep ph (zEm ph d) 12 80 0 [] L st M) := zEv_step rfl
theorem e27_80 (ph : Bool) (d : Nat) (L st : List zV) (M : zM) : zEv ph d 27 80 L st M = zcont ph d 27 (zstep ph (zEm ph d) 80 81 0 [] L st M) := zEv_step rfl
theorem c_least0 (d : Nat) (x0 x1 x2 q y a : Int) (N : zM) (nd : Int) (h3 : N 56 3 = nd) : ∀ (n : Nat) (t : Int), t + n = 201 → 0 ≤ t → zEv true d 73 58 [(23, 56, x0), (28, 30, x1), (26, 37, x2), (0, q, y), (0, a, 0), (0, t, 0)] [] N = some ((0, zfnd (fun t => decide (nd ≤ N 57 t)) n t, 0), N)
  | 0, t, hn, t0 => by
    unfold zfnd
    simp (disch := first | assumption | exact zrm0 | exact zrm1 _ | exact zrm2 _ _ | exact zrm3 _ _ _ | exact zrm4 _ _ _ _ | omega) only [m73, ↓k_dp, ↓k_dn, k_dp, k_dn, k_dT, k_dF, k_ip, k_in, if_true, if_false, ne_eq, not_true_eq_false, not_false_eq_true, Int.reduceAdd, zup_a, zup_e, zup_j, z32_id, k_al0, k_al2, k_gR, k_il3, k_ild, k_ildS, k_ildW, k_pI, k_al1, k_ic, k_v4r, k_is4, k_il4, k_iadd, k_isub, k_max, k_v3, k_is5, k_il5, k_icgt, k_gI, k_iclt, k_ri, k_inc5, k_goto, zb0_some, zb1_some, e73_0, e73_1, e73_2, e73_5, e73_6, e73_7, e73_10, e73_11, e73_12, e73_13, e73_16, e73_17, e73_18, e73_19, e73_22, e73_24, e73_25, e73_26, e73_28, e73_29, e73_30, e73_31, e73_34, e73_35, e73_36, e73_37, e73_40, e73_43, e73_44, e73_45, e73_46, e73_49, e73_50, e73_51, e73_52, e73_55, e73_56, e73_58, e73_60, e73_63, e73_66, e73_67, e73_70, e73_72, e73_73, e73_74, e73_77, e73_80, e73_82, e73_83, e73_86, e73_89, e73_90]
  | n + 1, t, hn, t0 => by
    unfold zfnd
    rw [e73_58]
    by_cases c : nd ≤ N 57 t
    · rw [decide_eq_true c, if_pos rfl]
      simp (disch := first | assumption | exact zrm0 | exact zrm1 _ | exact zrm2 _ _ | exact zrm3 _ _ _ | exact zrm4 _ _ _ _ | omega) only [m73, ↓k_dp, ↓k_dn, k_dp, k_dn, k_dT, k_dF, k_ip, k_in, if_true, if_false, ne_eq, not_true_eq_false, not_false_eq_true, Int.reduceAdd, zup_a, zup_e, zup_j, z32_id, k_al0, k_al2, k_gR, k_il3, k_ild, k_ildS, k_ildW, k_pI, k_al1, k_ic, k_v4r, k_is4, k_il4, k_iadd, k_isub, k_max, k_v3, k_is5, k_il5, k_icgt, k_gI, k_iclt, k_ri, k_inc5, k_goto, zb0_some, zb1_some, e73_0, e73_1, e73_2, e73_5, e73_6, e73_7, e73_10, e73_11, e73_12, e73_13, e73_16, e73_17, e73_18, e73_19, e73_22, e73_24, e73_25, e73_26, e73_28, e73_29, e73_30, e73_31, e73_34, e73_35, e73_36, e73_37, e73_40, e73_43, e73_44, e73_45, e73_46, e73_49, e73_50, e73_51, e73_52, e73_55, e73_56, e73_60, e73_63, e73_66, e73_67, e73_70, e73_72, e73_73, e73_74, e73_77, e73_80, e73_82, e73_83, e73_86, e73_89, e73_90, h3]
    · rw [decide_eq_false c, if_neg (by decide)]
      simp (disch := first | assumption | exact zrm0 | exact zrm1 _ | exact zrm2 _ _ | exact zrm3 _ _ _ | exact zrm4 _ _ _ _ | omega) only [m73, ↓k_dp, ↓k_dn, k_dp, k_dn, k_dT, k_dF, k_ip, k_in, if_true, if_false, ne_eq, not_true_eq_false, not_false_eq_true, Int.reduceAdd, zup_a, zup_e, zup_j, z32_id, k_al0, k_al2, k_gR, k_il3, k_ild, k_ildS, k_ildW, k_pI, k_al1, k_ic, k_v4r, k_is4, k_il4, k_iadd, k_isub, k_max, k_v3, k_is5, k_il5, k_icgt, k_gI, k_iclt, k_ri, k_inc5, k_goto, zb0_some, zb1_some, e73_0, e73_1, e73_2, e73_5, e73_6, e73_7, e73_10, e73_11, e73_12, e73_13, e73_16, e73_17, e73_18, e73_19, e73_22, e73_24, e73_25, e73_26, e73_28, e73_29, e73_30, e73_31, e73_34, e73_35, e73_36, e73_37, e73_40, e73_43, e73_44, e73_45, e73_46, e73_49, e73_50, e73_51, e73_52, e73_55, e73_56, e73_60, e73_63, e73_66, e73_67, e73_70, e73_72, e73_73, e73_74, e73_77, e73_80, e73_82, e73_83, e73_86, e73_89, e73_90, h3]
      exact c_least0 d x0 x1 x2 q y a N nd h3 n (t + 1) (by omega) (by omega)
theorem zfnd_congr {p p' : Int → Bool} : ∀ (n : Nat) (k : Int), (∀ i, k ≤ i → i < k + n → p i = p' i) → zfnd p n k = zfnd p' n k
  | 0, _, _ => rfl
  | n + 1, k, h => by
    unfold zfnd
    rw [h k (by omega) (by omega), zfnd_congr n (k + 1) (fun i h1 h2 => h i (by omega) (by omega))]
theorem c_leastIrons (d : Nat) (x0 q y : Int) (M : zM) (hS : okS (zvS M 37)) (hG : okG (zvG M 30)) (q0 : 0 ≤ q) (q1 : q < 5) : ∃ N', zEm true (d + 6) 73 [(23, 56, x0), (28, 30, 0), (26, 37, 0), (0, q, y)] M = some ((0, sLeast (zvS M 37) (zvG M 30) q, 0), N') ∧ N' 56 3 = sNeed (zvS M 37) (zvG M 30) q ∧ N' 56 2 = zvS M 37 3 q ∧ (∀ h, 0 ≤ h → h < M 30 7 → N' 58 h = rB (zvS M 37) (zvG M 30) q h) ∧ (∀ (i : Nat) (n : Int), i ≤ (M 30 7).toNat → 0 ≤ n → n ≤ 200 → N' 57 ((M 30 7 - i) * 201 + n) = dL (gB (zvS M 37) (zvG M 30) q) (rB (zvS M 37) (zvG M 30) q) (M 30 7) i n) ∧ ∀ x y, x ≠ 56 → x ≠ 57 → x ≠ 58 → N' x y = M x y := by
  have hG2 := hG
  obtain ⟨⟨g6, g6'⟩, ⟨g1, g2⟩, -, -, -, -, -, -, ge⟩ := okG_M hG2
  have e7 : zvG M 30 0 7 = M 30 7 := zvG_0 (by omega) (by omega)
  have e3 : zvS M 37 3 q = M 40 q := zvS_3 q0 q1
  have e4 : zvS M 37 4 q = M 41 q := zvS_4 q0 q1
  have ee : zvG M 30 6 0 = M 36 0 := zvG_6 (by omega) (by omega)
  have be := ge 0 (by omega) (by omega)
  have be : 0 ≤ M 36 0 ∧ M 36 0 ≤ 99 := be
  have bw := sWay_bd (g := zvS M 37 4 q) (w := 1) hS hG (by omega) (by omega)
  have hnd : sNeed (zvS M 37) (zvG M 30) q = if 1 < sWay (zvS M 37) (zvG M 30) (zvS M 37 4 q) 1 + 1 - M 36 0 then sWay (zvS M 37) (zvG M 30) (zvS M 37 4 q) 1 + 1 - M 36 0 else 1 := by unfold sNeed sMax; rw [ee]
  obtain ⟨B, hB⟩ : ∃ B, B = zup (zup M 56 2 (M 40 q)) 56 3 (sNeed (zvS M 37) (zvG M 30) q) := ⟨_, rfl⟩
  have hBo : ∀ x y, x ≠ 56 → B x y = M x y := fun x y h => by rw [hB, zup_a h, zup_a h]
  have eS : zvS B 37 = zvS M 37 := zvS_eq (fun x y a1 a2 => hBo x y (by omega))
  have eG : zvG B 30 = zvG M 30 := zvG_eq (fun x y a1 a2 => hBo x y (by omega))
  have b7 : B 30 7 = M 30 7 := hBo _ _ (by omega)
  have b2 : B 56 2 = zvS B 37 3 q := by rw [eS, e3, hB, zup_j (by omega), zup_e (by omega)]
  have b3 : B 56 3 = sNeed (zvS M 37) (zvG M 30) q := by rw [hB, zup_e (by omega)]
  have hm := c_measureRoom (d + 2) x0 B q b2 (by rw [eS]; exact hS) (by rw [eG]; exact hG)
  rw [eS, eG, b7] at hm
  obtain ⟨Z, hZ⟩ : ∃ Z, Z = zit (fun h U => zup U 58 h (rB (zvS M 37) (zvG M 30) q h)) (M 30 7).toNat 0 B := ⟨_, rfl⟩
  rw [← hZ] at hm
  have hZo : ∀ x y, x ≠ 58 → Z x y = B x y := fun x y h => by rw [hZ, zit_pt (fun h _ => rB (zvS M 37) (zvG M 30) q h) (by omega), if_neg (fun z => h z.1)]
  have hK : okK B Z q := ⟨hZo _ _ (by omega), fun h h0 h1 => by
    rw [hZ, zit_pt (fun h _ => rB (zvS M 37) (zvG M 30) q h) (by omega), if_pos ⟨rfl, h0, by omega⟩, eS, eG], fun x y _ h2 => hZo x y h2⟩
  obtain ⟨N', f1, f2, f3⟩ := c_fillLoudest d x0 B Z q b2 (by rw [eS]; exact hS) (by rw [eG]; exact hG) hK
  unfold okRows zLf at f3
  rw [eS, eG, b7] at f3
  obtain ⟨k1, k2, k3⟩ := f2
  rw [eS, eG, b7] at k2
  have n3 : N' 56 3 = sNeed (zvS M 37) (zvG M 30) q := by rw [k3 _ _ (by omega) (by omega)]; exact b3
  refine ⟨N', ?_, n3, by rw [k1, b2, eS], k2, f3, fun x y h1 h2 h3 => by rw [k3 x y h2 h3, hBo x y h1]⟩
  have hs := c_least0 (d + 5) x0 0 0 q y (sWay (zvS M 37) (zvG M 30) (zvS M 37 4 q) 1) N' _ n3 201 0 (by omega) (Int.le_refl _)
  have hcg : zfnd (fun t => decide (sNeed (zvS M 37) (zvG M 30) q ≤ N' 57 t)) 201 0 = sLeast (zvS M 37) (zvG M 30) q := by
    unfold sLeast
    rw [e7]
    refine zfnd_congr 201 0 (fun i i0 i1 => ?_)
    have h := f3 (M 30 7).toNat i (Nat.le_refl _) i0 (by omega)
    rw [show (M 30 7 - ((M 30 7).toNat : Int)) * 201 + i = i by omega] at h
    rw [h]
  rw [hcg] at hs
  rw [e4] at hs bw hnd
  obtain ⟨C, hC⟩ : ∃ C, C = zup M 56 2 (M 40 q) := ⟨_, rfl⟩
  have cS : zvS C 37 = zvS M 37 := by rw [hC, zvS_out (by omega)]
  have cG : zvG C 30 = zvG M 30 := by rw [hC, zvG_out (by omega)]
  have c7 : 0 ≤ C 30 7 ∧ C 30 7 ≤ 10 := by rw [hC, zup_a (by omega)]; omega
  obtain ⟨c7, c7'⟩ := c7
  have cw := s_wayNoise (d + 2) 37 0 30 0 (M 41 q) 0 1 0 C c7 c7' (by omega) (by omega)
  rw [cS, cG] at cw
  have c41 : C 41 q = M 41 q := by rw [hC, zup_a (by omega)]
  have c36 : C 36 0 = M 36 0 := by rw [hC, zup_a (by omega)]
  rw [hnd] at hB
  generalize sWay (zvS M 37) (zvG M 30) (M 41 q) 1 = W at *
  by_cases cn : 1 < W + 1 - M 36 0
  · rw [if_pos cn] at hB
    simp (disch := first | assumption | exact zrm0 | exact zrm1 _ | exact zrm2 _ _ | exact zrm3 _ _ _ | exact zrm4 _ _ _ _ | omega) only [m73, ↓k_dp, ↓k_dn, k_dp, k_dn, k_dT, k_dF, k_ip, k_in, if_true, if_false, ne_eq, not_true_eq_false, not_false_eq_true, Int.reduceAdd, zup_a, zup_e, zup_j, z32_id, k_al0, k_al2, k_gR, k_il3, k_ild, k_ildS, k_ildW, k_pI, k_al1, k_ic, k_v4r, k_is4, k_il4, k_iadd, k_isub, k_max, k_v3, k_is5, k_il5, k_icgt, k_gI, k_iclt, k_ri, k_inc5, k_goto, zb0_some, zb1_some, e73_0, e73_1, e73_2, e73_5, e73_6, e73_7, e73_10, e73_11, e73_12, e73_13, e73_16, e73_17, e73_18, e73_19, e73_22, e73_24, e73_25, e73_26, e73_28, e73_29, e73_30, e73_31, e73_34, e73_35, e73_36, e73_37, e73_40, e73_43, e73_44, e73_45, e73_46, e73_49, e73_50, e73_51, e73_52, e73_55, e73_56, e73_60, e73_63, e73_66, e73_67, e73_70, e73_72, e73_73, e73_74, e73_77, e73_80, e73_82, e73_83, e73_86, e73_89, e73_90, hC.symm, c41, cw, c36]
    rw [hC, ← hB]
    simp (disch := first | assumption | exact zrm0 | exact zrm1 _ | exact zrm2 _ _ | exact zrm3 _ _ _ | exact zrm4 _ _ _ _ | omega) only [m73, ↓k_dp, ↓k_dn, k_dp, k_dn, k_dT, k_dF, k_ip, k_in, if_true, if_false, ne_eq, not_true_eq_false, not_false_eq_true, Int.reduceAdd, zup_a, zup_e, zup_j, z32_id, k_al0, k_al2, k_gR, k_il3, k_ild, k_ildS, k_ildW, k_pI, k_al1, k_ic, k_v4r, k_is4, k_il4, k_iadd, k_isub, k_max, k_v3, k_is5, k_il5, k_icgt, k_gI, k_iclt, k_ri, k_inc5, k_goto, zb0_some, zb1_some, e73_0, e73_1, e73_2, e73_5, e73_6, e73_7, e73_10, e73_11, e73_12, e73_13, e73_16, e73_17, e73_18, e73_19, e73_22, e73_24, e73_25, e73_26, e73_28, e73_29, e73_30, e73_31, e73_34, e73_35, e73_36, e73_37, e73_40, e73_43, e73_44, e73_45, e73_46, e73_49, e73_50, e73_51, e73_52, e73_55, e73_56, e73_60, e73_63, e73_66, e73_67, e73_70, e73_72, e73_73, e73_74, e73_77, e73_80, e73_82, e73_83, e73_86, e73_89, e73_90, hm, f1]
    exact hs
  · rw [if_neg cn] at hB
    simp (disch := first | assumption | exact zrm0 | exact zrm1 _ | exact zrm2 _ _ | exact zrm3 _ _ _ | exact zrm4 _ _ _ _ | omega) only [m73, ↓k_dp, ↓k_dn, k_dp, k_dn, k_dT, k_dF, k_ip, k_in, if_true, if_false, ne_eq, not_true_eq_false, not_false_eq_true, Int.reduceAdd, zup_a, zup_e, zup_j, z32_id, k_al0, k_al2, k_gR, k_il3, k_ild, k_ildS, k_ildW, k_pI, k_al1, k_ic, k_v4r, k_is4, k_il4, k_iadd, k_isub, k_max, k_v3, k_is5, k_il5, k_icgt, k_gI, k_iclt, k_ri, k_inc5, k_goto, zb0_some, zb1_some, e73_0, e73_1, e73_2, e73_5, e73_6, e73_7, e73_10, e73_11, e73_12, e73_13, e73_16, e73_17, e73_18, e73_19, e73_22, e73_24, e73_25, e73_26, e73_28, e73_29, e73_30, e73_31, e73_34, e73_35, e73_36, e73_37, e73_40, e73_43, e73_44, e73_45, e73_46, e73_49, e73_50, e73_51, e73_52, e73_55, e73_56, e73_60, e73_63, e73_66, e73_67, e73_70, e73_72, e73_73, e73_74, e73_77, e73_80, e73_82, e73_83, e73_86, e73_89, e73_90, hC.symm, c41, cw, c36]
    rw [hC, ← hB]
    simp (disch := first | assumption | exact zrm0 | exact zrm1 _ | exact zrm2 _ _ | exact zrm3 _ _ _ | exact zrm4 _ _ _ _ | omega) only [m73, ↓k_dp, ↓k_dn, k_dp, k_dn, k_dT, k_dF, k_ip, k_in, if_true, if_false, ne_eq, not_true_eq_false, not_false_eq_true, Int.reduceAdd, zup_a, zup_e, zup_j, z32_id, k_al0, k_al2, k_gR, k_il3, k_ild, k_ildS, k_ildW, k_pI, k_al1, k_ic, k_v4r, k_is4, k_il4, k_iadd, k_isub, k_max, k_v3, k_is5, k_il5, k_icgt, k_gI, k_iclt, k_ri, k_inc5, k_goto, zb0_some, zb1_some, e73_0, e73_1, e73_2, e73_5, e73_6, e73_7, e73_10, e73_11, e73_12, e73_13, e73_16, e73_17, e73_18, e73_19, e73_22, e73_24, e73_25, e73_26, e73_28, e73_29, e73_30, e73_31, e73_34, e73_35, e73_36, e73_37, e73_40, e73_43, e73_44, e73_45, e73_46, e73_49, e73_50, e73_51, e73_52, e73_55, e73_56, e73_60, e73_63, e73_66, e73_67, e73_70, e73_72, e73_73, e73_74, e73_77, e73_80, e73_82, e73_83, e73_86, e73_89, e73_90, hm, f1]
    exact hs
