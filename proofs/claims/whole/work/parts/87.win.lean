/-! which sets win -/
set_option maxRecDepth 20000 in
theorem pw_all : ((List.range 11).all fun h => decide (1 ≤ zshl 1 h) && decide (zshl 1 h ≤ 1024) && decide (z32 (zshl 1 h - 1) = zshl 1 h - 1)) = true := by decide +kernel
theorem pw_ok {h : Int} (h0 : 0 ≤ h) (h1 : h ≤ 10) : 1 ≤ zshl 1 h ∧ zshl 1 h ≤ 1024 ∧ z32 (zshl 1 h - 1) = zshl 1 h - 1 := by
  obtain ⟨i, rfl⟩ := Int.eq_ofNat_of_zero_le h0
  have := List.all_eq_true.mp pw_all i (List.mem_range.mpr (by omega))
  simp only [Bool.and_eq_true, decide_eq_true_eq] at this
  obtain ⟨⟨a1, a2⟩, a3⟩ := this
  exact ⟨a1, a2, a3⟩
def sFewer (s b : Int) : Bool := decide (b = -1) || decide (kB 10 s < kB 10 b)
def sWinF (S G : zM) (q : Int) (s b : Int) : Int := if zand s (S 3 q) = 0 then (if sFewer s b = true then (if sCar S G (zor (S 3 q) s) (zand (S 4 q) (zxor s (-1))) = true then s else b) else b) else b
def sWin (S G : zM) (q : Int) : Int := zit (sWinF S G q) (zshl 1 (G 0 7)).toNat 0 (-1)
def sWinSF (S G : zM) (q : Int) (s b : Int) : Int := if sFewer s b = true then (if sCar S G (zor (S 3 q) (sHands G s)) (zand (S 4 q) (zxor (sHands G s) (-1))) = true then s else b) else b
def sWinS (S G : zM) (q : Int) : Int := zit (sWinSF S G q) (zshl 1 (G 0 6)).toNat 0 (-1)
theorem m52 (ph : Bool) (d : Nat) (p0 y0 p1 y1 : Int) (M : zM) : zEm ph (d + 1) 52 [(0, p0, y0), (0, p1, y1)] M = zEv ph d 52 0 [(0, p0, y0), (0, p1, y1)] [] M := rfl
theorem e52_0 (ph : Bool) (d : Nat) (L st : List zV) (M : zM) : zEv ph d 52 0 L st M = zcont ph d 52 (zstep ph (zEm ph d) 2 1 0 [1] L st M) := zEv_step rfl
theorem e52_1 (ph : Bool) (d : Nat) (L st : List zV) (M : zM) : zEv ph d 52 1 L st M = zcont ph d 52 (zstep ph (zEm ph d) 0 2 0 [-1] L st M) := zEv_step rfl
theorem e52_2 (ph : Bool) (d : Nat) (L st : List zV) (M : zM) : zEv ph d 52 2 L st M = zcont ph d 52 (zstep ph (zEm ph d) 46 5 16 [] L st M) := zEv_step rfl
theorem e52_5 (ph : Bool) (d : Nat) (L st : List zV) (M : zM) : zEv ph d 52 5 L st M = zcont ph d 52 (zstep ph (zEm ph d) 2 6 0 [0] L st M) := zEv_step rfl
theorem e52_6 (ph : Bool) (d : Nat) (L st : List zV) (M : zM) : zEv ph d 52 6 L st M = zcont ph d 52 (zstep ph (zEm ph d) 70 9 320 [1, 1, -1] L st M) := zEv_step rfl
theorem e52_9 (ph : Bool) (d : Nat) (L st : List zV) (M : zM) : zEv ph d 52 9 L st M = zcont ph d 52 (zstep ph (zEm ph d) 2 10 0 [1] L st M) := zEv_step rfl
theorem e52_10 (ph : Bool) (d : Nat) (L st : List zV) (M : zM) : zEv ph d 52 10 L st M = zcont ph d 52 (zstep ph (zEm ph d) 70 13 320 [1, 1, -1] L st M) := zEv_step rfl
theorem e52_13 (ph : Bool) (d : Nat) (L st : List zV) (M : zM) : zEv ph d 52 13 L st M = zcont ph d 52 (zstep ph (zEm ph d) 49 16 20 [] L st M) := zEv_step rfl
theorem e52_16 (ph : Bool) (d : Nat) (L st : List zV) (M : zM) : zEv ph d 52 16 L st M = zcont ph d 52 (zstep ph (zEm ph d) 0 17 0 [1] L st M) := zEv_step rfl
theorem e52_17 (ph : Bool) (d : Nat) (L st : List zV) (M : zM) : zEv ph d 52 17 L st M = zcont ph d 52 (zstep ph (zEm ph d) 52 20 21 [] L st M) := zEv_step rfl
theorem e52_20 (ph : Bool) (d : Nat) (L st : List zV) (M : zM) : zEv ph d 52 20 L st M = zcont ph d 52 (zstep ph (zEm ph d) 0 21 0 [0] L st M) := zEv_step rfl
theorem e52_21 (ph : Bool) (d : Nat) (L st : List zV) (M : zM) : zEv ph d 52 21 L st M = zcont ph d 52 (zstep ph (zEm ph d) 80 22 0 [0, 1] L st M) := zEv_step rfl
theorem m53 (ph : Bool) (d : Nat) (a x0 p0 y0 p1 y1 : Int) (M : zM) : zEm ph (d + 1) 53 [(29, a, x0), (0, p0, y0), (0, p1, y1)] M = zEv ph d 53 0 [(29, a, x0), (0, p0, y0), (0, p1, y1)] [] M := rfl
theorem e53_0 (ph : Bool) (d : Nat) (L st : List zV) (M : zM) : zEv ph d 53 0 L st M = zcont ph d 53 (zstep ph (zEm ph d) 4 1 0 [0] L st M) := zEv_step rfl
theorem e53_1 (ph : Bool) (d : Nat) (L st : List zV) (M : zM) : zEv ph d 53 1 L st M = zcont ph d 53 (zstep ph (zEm ph d) 62 4 0 [29, 3, 37, 26, 0] L st M) := zEv_step rfl
theorem e53_4 (ph : Bool) (d : Nat) (L st : List zV) (M : zM) : zEv ph d 53 4 L st M = zcont ph d 53 (zstep ph (zEm ph d) 4 5 0 [0] L st M) := zEv_step rfl
theorem e53_5 (ph : Bool) (d : Nat) (L st : List zV) (M : zM) : zEv ph d 53 5 L st M = zcont ph d 53 (zstep ph (zEm ph d) 62 8 0 [29, 2, 30, 28, 0] L st M) := zEv_step rfl
theorem e53_8 (ph : Bool) (d : Nat) (L st : List zV) (M : zM) : zEv ph d 53 8 L st M = zcont ph d 53 (zstep ph (zEm ph d) 4 9 0 [0] L st M) := zEv_step rfl
theorem e53_9 (ph : Bool) (d : Nat) (L st : List zV) (M : zM) : zEv ph d 53 9 L st M = zcont ph d 53 (zstep ph (zEm ph d) 62 12 0 [29, 3, 37, 26, 0] L st M) := zEv_step rfl
theorem e53_12 (ph : Bool) (d : Nat) (L st : List zV) (M : zM) : zEv ph d 53 12 L st M = zcont ph d 53 (zstep ph (zEm ph d) 62 15 0 [26, 2, 3, 10, 5] L st M) := zEv_step rfl
theorem e53_15 (ph : Bool) (d : Nat) (L st : List zV) (M : zM) : zEv ph d 53 15 L st M = zcont ph d 53 (zstep ph (zEm ph d) 2 16 0 [1] L st M) := zEv_step rfl
theorem e53_16 (ph : Bool) (d : Nat) (L st : List zV) (M : zM) : zEv ph d 53 16 L st M = zcont ph d 53 (zstep ph (zEm ph d) 85 17 0 [] L st M) := zEv_step rfl
theorem e53_17 (ph : Bool) (d : Nat) (L st : List zV) (M : zM) : zEv ph d 53 17 L st M = zcont ph d 53 (zstep ph (zEm ph d) 2 18 0 [2] L st M) := zEv_step rfl
theorem e53_18 (ph : Bool) (d : Nat) (L st : List zV) (M : zM) : zEv ph d 53 18 L st M = zcont ph d 53 (zstep ph (zEm ph d) 17 19 0 [] L st M) := zEv_step rfl
theorem e53_19 (ph : Bool) (d : Nat) (L st : List zV) (M : zM) : zEv ph d 53 19 L st M = zcont ph d 53 (zstep ph (zEm ph d) 4 20 0 [0] L st M) := zEv_step rfl
theorem e53_20 (ph : Bool) (d : Nat) (L st : List zV) (M : zM) : zEv ph d 53 20 L st M = zcont ph d 53 (zstep ph (zEm ph d) 62 23 0 [29, 3, 37, 26, 0] L st M) := zEv_step rfl
theorem e53_23 (ph : Bool) (d : Nat) (L st : List zV) (M : zM) : zEv ph d 53 23 L st M = zcont ph d 53 (zstep ph (zEm ph d) 62 26 0 [26, 3, 4, 10, 5] L st M) := zEv_step rfl
theorem e53_26 (ph : Bool) (d : Nat) (L st : List zV) (M : zM) : zEv ph d 53 26 L st M = zcont ph d 53 (zstep ph (zEm ph d) 2 27 0 [1] L st M) := zEv_step rfl
theorem e53_27 (ph : Bool) (d : Nat) (L st : List zV) (M : zM) : zEv ph d 53 27 L st M = zcont ph d 53 (zstep ph (zEm ph d) 85 28 0 [] L st M) := zEv_step rfl
theorem e53_28 (ph : Bool) (d : Nat) (L st : List zV) (M : zM) : zEv ph d 53 28 L st M = zcont ph d 53 (zstep ph (zEm ph d) 2 29 0 [2] L st M) := zEv_step rfl
theorem e53_29 (ph : Bool) (d : Nat) (L st : List zV) (M : zM) : zEv ph d 53 29 L st M = zcont ph d 53 (zstep ph (zEm ph d) 0 30 0 [-1] L st M) := zEv_step rfl
theorem e53_30 (ph : Bool) (d : Nat) (L st : List zV) (M : zM) : zEv ph d 53 30 L st M = zcont ph d 53 (zstep ph (zEm ph d) 18 31 0 [] L st M) := zEv_step rfl
theorem e53_31 (ph : Bool) (d : Nat) (L st : List zV) (M : zM) : zEv ph d 53 31 L st M = zcont ph d 53 (zstep ph (zEm ph d) 16 32 0 [] L st M) := zEv_step rfl
theorem e53_32 (ph : Bool) (d : Nat) (L st : List zV) (M : zM) : zEv ph d 53 32 L st M = zcont ph d 53 (zstep ph (zEm ph d) 70 35 120 [4, 1, 26] L st M) := zEv_step rfl
theorem e53_35 (ph : Bool) (d : Nat) (L st : List zV) (M : zM) : zEv ph d 53 35 L st M = zcont ph d 53 (zstep ph (zEm ph d) 80 36 0 [0, 1] L st M) := zEv_step rfl
theorem m22 (ph : Bool) (d : Nat) (a x0 p0 y0 : Int) (M : zM) : zEm ph (d + 1) 22 [(29, a, x0), (0, p0, y0)] M = zEv ph d 22 0 [(29, a, x0), (0, p0, y0), (3, 0, 0), (3, 0, 0)] [] M := rfl
theorem e22_0 (ph : Bool) (d : Nat) (L st : List zV) (M : zM) : zEv ph d 22 0 L st M = zcont ph d 22 (zstep ph (zEm ph d) 4 1 0 [0] L st M) := zEv_step rfl
theorem e22_1 (ph : Bool) (d : Nat) (L st : List zV) (M : zM) : zEv ph d 22 1 L st M = zcont ph d 22 (zstep ph (zEm ph d) 2 2 0 [1] L st M) := zEv_step rfl
theorem e22_2 (ph : Bool) (d : Nat) (L st : List zV) (M : zM) : zEv ph d 22 2 L st M = zcont ph d 22 (zstep ph (zEm ph d) 70 5 47 [2, 1, 29] L st M) := zEv_step rfl
theorem e22_5 (ph : Bool) (d : Nat) (L st : List zV) (M : zM) : zEv ph d 22 5 L st M = zcont ph d 22 (zstep ph (zEm ph d) 41 8 10 [] L st M) := zEv_step rfl
theorem e22_8 (ph : Bool) (d : Nat) (L st : List zV) (M : zM) : zEv ph d 22 8 L st M = zcont ph d 22 (zstep ph (zEm ph d) 0 9 0 [-1] L st M) := zEv_step rfl
theorem e22_9 (ph : Bool) (d : Nat) (L st : List zV) (M : zM) : zEv ph d 22 9 L st M = zcont ph d 22 (zstep ph (zEm ph d) 80 10 0 [] L st M) := zEv_step rfl
theorem e22_10 (ph : Bool) (d : Nat) (L st : List zV) (M : zM) : zEv ph d 22 10 L st M = zcont ph d 22 (zstep ph (zEm ph d) 0 11 0 [-1] L st M) := zEv_step rfl
theorem e22_11 (ph : Bool) (d : Nat) (L st : List zV) (M : zM) : zEv ph d 22 11 L st M = zcont ph d 22 (zstep ph (zEm ph d) 5 12 0 [2] L st M) := zEv_step rfl
theorem e22_12 (ph : Bool) (d : Nat) (L st : List zV) (M : zM) : zEv ph d 22 12 L st M = zcont ph d 22 (zstep ph (zEm ph d) 0 13 0 [0] L st M) := zEv_step rfl
theorem e22_13 (ph : Bool) (d : Nat) (L st : List zV) (M : zM) : zEv ph d 22 13 L st M = zcont ph d 22 (zstep ph (zEm ph d) 5 14 0 [3] L st M) := zEv_step rfl
theorem e22_14 (ph : Bool) (d : Nat) (L st : List zV) (M : zM) : zEv ph d 22 14 L st M = zcont ph d 22 (zstep ph (zEm ph d) 2 15 0 [3] L st M) := zEv_step rfl
theorem e22_15 (ph : Bool) (d : Nat) (L st : List zV) (M : zM) : zEv ph d 22 15 L st M = zcont ph d 22 (zstep ph (zEm ph d) 4 16 0 [0] L st M) := zEv_step rfl
theorem e22_16 (ph : Bool) (d : Nat) (L st : List zV) (M : zM) : zEv ph d 22 16 L st M = zcont ph d 22 (zstep ph (zEm ph d) 62 19 0 [29, 2, 30, 28, 0] L st M) := zEv_step rfl
theorem e22_19 (ph : Bool) (d : Nat) (L st : List zV) (M : zM) : zEv ph d 22 19 L st M = zcont ph d 22 (zstep ph (zEm ph d) 70 22 158 [1, 1, 28] L st M) := zEv_step rfl
theorem e22_22 (ph : Bool) (d : Nat) (L st : List zV) (M : zM) : zEv ph d 22 22 L st M = zcont ph d 22 (zstep ph (zEm ph d) 50 25 64 [] L st M) := zEv_step rfl
theorem e22_25 (ph : Bool) (d : Nat) (L st : List zV) (M : zM) : zEv ph d 22 25 L st M = zcont ph d 22 (zstep ph (zEm ph d) 2 26 0 [3] L st M) := zEv_step rfl
theorem e22_26 (ph : Bool) (d : Nat) (L st : List zV) (M : zM) : zEv ph d 22 26 L st M = zcont ph d 22 (zstep ph (zEm ph d) 4 27 0 [0] L st M) := zEv_step rfl
theorem e22_27 (ph : Bool) (d : Nat) (L st : List zV) (M : zM) : zEv ph d 22 27 L st M = zcont ph d 22 (zstep ph (zEm ph d) 62 30 0 [29, 3, 37, 26, 0] L st M) := zEv_step rfl
theorem e22_30 (ph : Bool) (d : Nat) (L st : List zV) (M : zM) : zEv ph d 22 30 L st M = zcont ph d 22 (zstep ph (zEm ph d) 62 33 0 [26, 2, 3, 10, 5] L st M) := zEv_step rfl
theorem e22_33 (ph : Bool) (d : Nat) (L st : List zV) (M : zM) : zEv ph d 22 33 L st M = zcont ph d 22 (zstep ph (zEm ph d) 2 34 0 [1] L st M) := zEv_step rfl
theorem e22_34 (ph : Bool) (d : Nat) (L st : List zV) (M : zM) : zEv ph d 22 34 L st M = zcont ph d 22 (zstep ph (zEm ph d) 85 35 0 [] L st M) := zEv_step rfl
theorem e22_35 (ph : Bool) (d : Nat) (L st : List zV) (M : zM) : zEv ph d 22 35 L st M = zcont ph d 22 (zstep ph (zEm ph d) 16 36 0 [] L st M) := zEv_step rfl
theorem e22_36 (ph : Bool) (d : Nat) (L st : List zV) (M : zM) : zEv ph d 22 36 L st M = zcont ph d 22 (zstep ph (zEm ph d) 41 39 58 [] L st M) := zEv_step rfl
theorem e22_39 (ph : Bool) (d : Nat) (L st : List zV) (M : zM) : zEv ph d 22 39 L st M = zcont ph d 22 (zstep ph (zEm ph d) 2 40 0 [3] L st M) := zEv_step rfl
theorem e22_40 (ph : Bool) (d : Nat) (L st : List zV) (M : zM) : zEv ph d 22 40 L st M = zcont ph d 22 (zstep ph (zEm ph d) 2 41 0 [2] L st M) := zEv_step rfl
theorem e22_41 (ph : Bool) (d : Nat) (L st : List zV) (M : zM) : zEv ph d 22 41 L st M = zcont ph d 22 (zstep ph (zEm ph d) 70 44 52 [2, 1, -1] L st M) := zEv_step rfl
theorem e22_44 (ph : Bool) (d : Nat) (L st : List zV) (M : zM) : zEv ph d 22 44 L st M = zcont ph d 22 (zstep ph (zEm ph d) 40 47 58 [] L st M) := zEv_step rfl
theorem e22_47 (ph : Bool) (d : Nat) (L st : List zV) (M : zM) : zEv ph d 22 47 L st M = zcont ph d 22 (zstep ph (zEm ph d) 4 48 0 [0] L st M) := zEv_step rfl
theorem e22_48 (ph : Bool) (d : Nat) (L st : List zV) (M : zM) : zEv ph d 22 48 L st M = zcont ph d 22 (zstep ph (zEm ph d) 2 49 0 [1] L st M) := zEv_step rfl
theorem e22_49 (ph : Bool) (d : Nat) (L st : List zV) (M : zM) : zEv ph d 22 49 L st M = zcont ph d 22 (zstep ph (zEm ph d) 2 50 0 [3] L st M) := zEv_step rfl
theorem e22_50 (ph : Bool) (d : Nat) (L st : List zV) (M : zM) : zEv ph d 22 50 L st M = zcont ph d 22 (zstep ph (zEm ph d) 70 53 53 [3, 1, 29] L st M) := zEv_step rfl
theorem e22_53 (ph : Bool) (d : Nat) (L st : List zV) (M : zM) : zEv ph d 22 53 L st M = zcont ph d 22 (zstep ph (zEm ph d) 40 56 58 [] L st M) := zEv_step rfl
theorem e22_56 (ph : Bool) (d : Nat) (L st : List zV) (M : zM) : zEv ph d 22 56 L st M = zcont ph d 22 (zstep ph (zEm ph d) 2 57 0 [3] L st M) := zEv_step rfl
theorem e22_57 (ph : Bool) (d : Nat) (L st : List zV) (M : zM) : zEv ph d 22 57 L st M = zcont ph d 22 (zstep ph (zEm ph d) 5 58 0 [2] L st M) := zEv_step rfl
theorem e22_58 (ph : Bool) (d : Nat) (L st : List zV) (M : zM) : zEv ph d 22 58 L st M = zcont ph d 22 (zstep ph (zEm ph d) 8 61 0 [3, 1] L st M) := zEv_step rfl
theorem e22_61 (ph : Bool) (d : Nat) (L st : List zV) (M : zM) : zEv ph d 22 61 L st M = zcont ph d 22 (zstep ph (zEm ph d) 52 64 14 [] L st M) := zEv_step rfl
theorem e22_64 (ph : Bool) (d : Nat) (L st : List zV) (M : zM) : zEv ph d 22 64 L st M = zcont ph d 22 (zstep ph (zEm ph d) 2 65 0 [2] L st M) := zEv_step rfl
theorem e22_65 (ph : Bool) (d : Nat) (L st : List zV) (M : zM) : zEv ph d 22 65 L st M = zcont ph d 22 (zstep ph (zEm ph d) 0 66 0 [-1] L st M) := zEv_step rfl
theorem e22_66 (ph : Bool) (d : Nat) (L st : List zV) (M : zM) : zEv ph d 22 66 L st M = zcont ph d 22 (zstep ph (zEm ph d) 47 69 71 [] L st M) := zEv_step rfl
theorem e22_69 (ph : Bool) (d : Nat) (L st : List zV) (M : zM) : zEv ph d 22 69 L st M = zcont ph d 22 (zstep ph (zEm ph d) 0 70 0 [-1] L st M) := zEv_step rfl
theorem e22_70 (ph : Bool) (d : Nat) (L st : List zV) (M : zM) : zEv ph d 22 70 L st M = zcont ph d 22 (zstep ph (zEm ph d) 80 71 0 [] L st M) := zEv_step rfl
theorem e22_71 (ph : Bool) (d : Nat) (L st : List zV) (M : zM) : zEv ph d 22 71 L st M = zcont ph d 22 (zstep ph (zEm ph d) 4 72 0 [0] L st M) := zEv_step rfl
theorem e22_72 (ph : Bool) (d : Nat) (L st : List zV) (M : zM) : zEv ph d 22 72 L st M = zcont ph d 22 (zstep ph (zEm ph d) 62 75 0 [29, 5, 51, 22, 0] L st M) := zEv_step rfl
theorem e22_75 (ph : Bool) (d : Nat) (L st : List zV) (M : zM) : zEv ph d 22 75 L st M = zcont ph d 22 (zstep ph (zEm ph d) 2 76 0 [2] L st M) := zEv_step rfl
theorem e22_76 (ph : Bool) (d : Nat) (L st : List zV) (M : zM) : zEv ph d 22 76 L st M = zcont ph d 22 (zstep ph (zEm ph d) 65 79 0 [22, 1] L st M) := zEv_step rfl
theorem e22_79 (ph : Bool) (d : Nat) (L st : List zV) (M : zM) : zEv ph d 22 79 L st M = zcont ph d 22 (zstep ph (zEm ph d) 2 80 0 [2] L st M) := zEv_step rfl
theorem e22_80 (ph : Bool) (d : Nat) (L st : List zV) (M : zM) : zEv ph d 22 80 L st M = zcont ph d 22 (zstep ph (zEm ph d) 70 83 320 [1, 1, -1] L st M) := zEv_step rfl
theorem e22_83 (ph : Bool) (d : Nat) (L st : List zV) (M : zM) : zEv ph d 22 83 L st M = zcont ph d 22 (zstep ph (zEm ph d) 80 84 0 [] L st M) := zEv_step rfl
theorem m24 (ph : Bool) (d : Nat) (a x0 p0 y0 : Int) (M : zM) : zEm ph (d + 1) 24 [(29, a, x0), (0, p0, y0)] M = zEv ph d 24 0 [(29, a, x0), (0, p0, y0), (3, 0, 0), (3, 0, 0)] [] M := rfl
theorem e24_0 (ph : Bool) (d : Nat) (L st : List zV) (M : zM) : zEv ph d 24 0 L st M = zcont ph d 24 (zstep ph (zEm ph d) 4 1 0 [0] L st M) := zEv_step rfl
theorem e24_1 (ph : Bool) (d : Nat) (L st : List zV) (M : zM) : zEv ph d 24 1 L st M = zcont ph d 24 (zstep ph (zEm ph d) 2 2 0 [1] L st M) := zEv_step rfl
theorem e24_2 (ph : Bool) (d : Nat) (L st : List zV) (M : zM) : zEv ph d 24 2 L st M = zcont ph d 24 (zstep ph (zEm ph d) 70 5 47 [2, 1, 29] L st M) := zEv_step rfl
theorem e24_5 (ph : Bool) (d : Nat) (L st : List zV) (M : zM) : zEv ph d 24 5 L st M = zcont ph d 24 (zstep ph (zEm ph d) 41 8 10 [] L st M) := zEv_step rfl
theorem e24_8 (ph : Bool) (d : Nat) (L st : List zV) (M : zM) : zEv ph d 24 8 L st M = zcont ph d 24 (zstep ph (zEm ph d) 0 9 0 [-1] L st M) := zEv_step rfl
theorem e24_9 (ph : Bool) (d : Nat) (L st : List zV) (M : zM) : zEv ph d 24 9 L st M = zcont ph d 24 (zstep ph (zEm ph d) 80 10 0 [] L st M) := zEv_step rfl
theorem e24_10 (ph : Bool) (d : Nat) (L st : List zV) (M : zM) : zEv ph d 24 10 L st M = zcont ph d 24 (zstep ph (zEm ph d) 0 11 0 [-1] L st M) := zEv_step rfl
theorem e24_11 (ph : Bool) (d : Nat) (L st : List zV) (M : zM) : zEv ph d 24 11 L st M = zcont ph d 24 (zstep ph (zEm ph d) 5 12 0 [2] L st M) := zEv_step rfl
theorem e24_12 (ph : Bool) (d : Nat) (L st : List zV) (M : zM) : zEv ph d 24 12 L st M = zcont ph d 24 (zstep ph (zEm ph d) 0 13 0 [0] L st M) := zEv_step rfl
theorem e24_13 (ph : Bool) (d : Nat) (L st : List zV) (M : zM) : zEv ph d 24 13 L st M = zcont ph d 24 (zstep ph (zEm ph d) 5 14 0 [3] L st M) := zEv_step rfl
theorem e24_14 (ph : Bool) (d : Nat) (L st : List zV) (M : zM) : zEv ph d 24 14 L st M = zcont ph d 24 (zstep ph (zEm ph d) 2 15 0 [3] L st M) := zEv_step rfl
theorem e24_15 (ph : Bool) (d : Nat) (L st : List zV) (M : zM) : zEv ph d 24 15 L st M = zcont ph d 24 (zstep ph (zEm ph d) 0 16 0 [1] L st M) := zEv_step rfl
theorem e24_16 (ph : Bool) (d : Nat) (L st : List zV) (M : zM) : zEv ph d 24 16 L st M = zcont ph d 24 (zstep ph (zEm ph d) 4 17 0 [0] L st M) := zEv_step rfl
theorem e24_17 (ph : Bool) (d : Nat) (L st : List zV) (M : zM) : zEv ph d 24 17 L st M = zcont ph d 24 (zstep ph (zEm ph d) 62 20 0 [29, 2, 30, 28, 0] L st M) := zEv_step rfl
theorem e24_20 (ph : Bool) (d : Nat) (L st : List zV) (M : zM) : zEv ph d 24 20 L st M = zcont ph d 24 (zstep ph (zEm ph d) 60 23 0 [28, 6] L st M) := zEv_step rfl
theorem e24_23 (ph : Bool) (d : Nat) (L st : List zV) (M : zM) : zEv ph d 24 23 L st M = zcont ph d 24 (zstep ph (zEm ph d) 19 24 0 [] L st M) := zEv_step rfl
theorem e24_24 (ph : Bool) (d : Nat) (L st : List zV) (M : zM) : zEv ph d 24 24 L st M = zcont ph d 24 (zstep ph (zEm ph d) 49 27 59 [] L st M) := zEv_step rfl
theorem e24_27 (ph : Bool) (d : Nat) (L st : List zV) (M : zM) : zEv ph d 24 27 L st M = zcont ph d 24 (zstep ph (zEm ph d) 2 28 0 [3] L st M) := zEv_step rfl
theorem e24_28 (ph : Bool) (d : Nat) (L st : List zV) (M : zM) : zEv ph d 24 28 L st M = zcont ph d 24 (zstep ph (zEm ph d) 2 29 0 [2] L st M) := zEv_step rfl
theorem e24_29 (ph : Bool) (d : Nat) (L st : List zV) (M : zM) : zEv ph d 24 29 L st M = zcont ph d 24 (zstep ph (zEm ph d) 70 32 52 [2, 1, -1] L st M) := zEv_step rfl
theorem e24_32 (ph : Bool) (d : Nat) (L st : List zV) (M : zM) : zEv ph d 24 32 L st M = zcont ph d 24 (zstep ph (zEm ph d) 40 35 53 [] L st M) := zEv_step rfl
theorem e24_35 (ph : Bool) (d : Nat) (L st : List zV) (M : zM) : zEv ph d 24 35 L st M = zcont ph d 24 (zstep ph (zEm ph d) 4 36 0 [0] L st M) := zEv_step rfl
theorem e24_36 (ph : Bool) (d : Nat) (L st : List zV) (M : zM) : zEv ph d 24 36 L st M = zcont ph d 24 (zstep ph (zEm ph d) 2 37 0 [1] L st M) := zEv_step rfl
theorem e24_37 (ph : Bool) (d : Nat) (L st : List zV) (M : zM) : zEv ph d 24 37 L st M = zcont ph d 24 (zstep ph (zEm ph d) 4 38 0 [0] L st M) := zEv_step rfl
theorem e24_38 (ph : Bool) (d : Nat) (L st : List zV) (M : zM) : zEv ph d 24 38 L st M = zcont ph d 24 (zstep ph (zEm ph d) 62 41 0 [29, 2, 30, 28, 0] L st M) := zEv_step rfl
theorem e24_41 (ph : Bool) (d : Nat) (L st : List zV) (M : zM) : zEv ph d 24 41 L st M = zcont ph d 24 (zstep ph (zEm ph d) 2 42 0 [3] L st M) := zEv_step rfl
theorem e24_42 (ph : Bool) (d : Nat) (L st : List zV) (M : zM) : zEv ph d 24 42 L st M = zcont ph d 24 (zstep ph (zEm ph d) 70 45 159 [2, 1, 28] L st M) := zEv_step rfl
theorem e24_45 (ph : Bool) (d : Nat) (L st : List zV) (M : zM) : zEv ph d 24 45 L st M = zcont ph d 24 (zstep ph (zEm ph d) 70 48 53 [3, 1, 29] L st M) := zEv_step rfl
theorem e24_48 (ph : Bool) (d : Nat) (L st : List zV) (M : zM) : zEv ph d 24 48 L st M = zcont ph d 24 (zstep ph (zEm ph d) 40 51 53 [] L st M) := zEv_step rfl
theorem e24_51 (ph : Bool) (d : Nat) (L st : List zV) (M : zM) : zEv ph d 24 51 L st M = zcont ph d 24 (zstep ph (zEm ph d) 2 52 0 [3] L st M) := zEv_step rfl
theorem e24_52 (ph : Bool) (d : Nat) (L st : List zV) (M : zM) : zEv ph d 24 52 L st M = zcont ph d 24 (zstep ph (zEm ph d) 5 53 0 [2] L st M) := zEv_step rfl
theorem e24_53 (ph : Bool) (d : Nat) (L st : List zV) (M : zM) : zEv ph d 24 53 L st M = zcont ph d 24 (zstep ph (zEm ph d) 8 56 0 [3, 1] L st M) := zEv_step rfl
theorem e24_56 (ph : Bool) (d : Nat) (L st : List zV) (M : zM) : zEv ph d 24 56 L st M = zcont ph d 24 (zstep ph (zEm ph d) 52 59 14 [] L st M) := zEv_step rfl
theorem e24_59 (ph : Bool) (d : Nat) (L st : List zV) (M : zM) : zEv ph d 24 59 L st M = zcont ph d 24 (zstep ph (zEm ph d) 2 60 0 [2] L st M) := zEv_step rfl
theorem e24_60 (ph : Bool) (d : Nat) (L st : List zV) (M : zM) : zEv ph d 24 60 L st M = zcont ph d 24 (zstep ph (zEm ph d) 0 61 0 [-1] L st M) := zEv_step rfl
theorem e24_61 (ph : Bool) (d : Nat) (L st : List zV) (M : zM) : zEv ph d 24 61 L st M = zcont ph d 24 (zstep ph (zEm ph d) 47 64 66 [] L st M) := zEv_step rfl
theorem e24_64 (ph : Bool) (d : Nat) (L st : List zV) (M : zM) : zEv ph d 24 64 L st M = zcont ph d 24 (zstep ph (zEm ph d) 0 65 0 [-1] L st M) := zEv_step rfl
theorem e24_65 (ph : Bool) (d : Nat) (L st : List zV) (M : zM) : zEv ph d 24 65 L st M = zcont ph d 24 (zstep ph (zEm ph d) 80 66 0 [] L st M) := zEv_step rfl
theorem e24_66 (ph : Bool) (d : Nat) (L st : List zV) (M : zM) : zEv ph d 24 66 L st M = zcont ph d 24 (zstep ph (zEm ph d) 4 67 0 [0] L st M) := zEv_step rfl
theorem e24_67 (ph : Bool) (d : Nat) (L st : List zV) (M : zM) : zEv ph d 24 67 L st M = zcont ph d 24 (zstep ph (zEm ph d) 62 70 0 [29, 5, 51, 22, 0] L st M) := zEv_step rfl
theorem e24_70 (ph : Bool) (d : Nat) (L st : List zV) (M : zM) : zEv ph d 24 70 L st M = zcont ph d 24 (zstep ph (zEm ph d) 2 71 0 [2] L st M) := zEv_step rfl
theorem e24_71 (ph : Bool) (d : Nat) (L st : List zV) (M : zM) : zEv ph d 24 71 L st M = zcont ph d 24 (zstep ph (zEm ph d) 65 74 0 [22, 2] L st M) := zEv_step rfl
theorem e24_74 (ph : Bool) (d : Nat) (L st : List zV) (M : zM) : zEv ph d 24 74 L st M = zcont ph d 24 (zstep ph (zEm ph d) 2 75 0 [2] L st M) := zEv_step rfl
theorem e24_75 (ph : Bool) (d : Nat) (L st : List zV) (M : zM) : zEv ph d 24 75 L st M = zcont ph d 24 (zstep ph (zEm ph d) 70 78 320 [1, 1, -1] L st M) := zEv_step rfl
theorem e24_78 (ph : Bool) (d : Nat) (L st : List zV) (M : zM) : zEv ph d 24 78 L st M = zcont ph d 24 (zstep ph (zEm ph d) 80 79 0 [] L st M) := zEv_step rfl
theorem m245 (ph : Bool) (d : Nat) (a x0 p0 y0 : Int) (M : zM) : zEm ph (d + 1) 245 [(30, a, x0), (0, p0, y0)] M = zEv ph d 245 0 [(30, a, x0), (0, p0, y0), (3, 0, 0), (3, 0, 0)] [] M := rfl
theorem e245_0 (ph : Bool) (d : Nat) (L st : List zV) (M : zM) : zEv ph d 245 0 L st M = zcont ph d 245 (zstep ph (zEm ph d) 4 1 0 [0] L st M) := zEv_step rfl
theorem e245_1 (ph : Bool) (d : Nat) (L st : List zV) (M : zM) : zEv ph d 245 1 L st M = zcont ph d 245 (zstep ph (zEm ph d) 0 2 0 [0] L st M) := zEv_step rfl
theorem e245_2 (ph : Bool) (d : Nat) (L st : List zV) (M : zM) : zEv ph d 245 2 L st M = zcont ph d 245 (zstep ph (zEm ph d) 65 5 0 [30, 0] L st M) := zEv_step rfl
theorem e245_5 (ph : Bool) (d : Nat) (L st : List zV) (M : zM) : zEv ph d 245 5 L st M = zcont ph d 245 (zstep ph (zEm ph d) 4 6 0 [0] L st M) := zEv_step rfl
theorem e245_6 (ph : Bool) (d : Nat) (L st : List zV) (M : zM) : zEv ph d 245 6 L st M = zcont ph d 245 (zstep ph (zEm ph d) 2 7 0 [1] L st M) := zEv_step rfl
theorem e245_7 (ph : Bool) (d : Nat) (L st : List zV) (M : zM) : zEv ph d 245 7 L st M = zcont ph d 245 (zstep ph (zEm ph d) 70 10 206 [2, 1, 30] L st M) := zEv_step rfl
theorem e245_10 (ph : Bool) (d : Nat) (L st : List zV) (M : zM) : zEv ph d 245 10 L st M = zcont ph d 245 (zstep ph (zEm ph d) 41 13 15 [] L st M) := zEv_step rfl
theorem e245_13 (ph : Bool) (d : Nat) (L st : List zV) (M : zM) : zEv ph d 245 13 L st M = zcont ph d 245 (zstep ph (zEm ph d) 0 14 0 [-1] L st M) := zEv_step rfl
theorem e245_14 (ph : Bool) (d : Nat) (L st : List zV) (M : zM) : zEv ph d 245 14 L st M = zcont ph d 245 (zstep ph (zEm ph d) 80 15 0 [] L st M) := zEv_step rfl
theorem e245_15 (ph : Bool) (d : Nat) (L st : List zV) (M : zM) : zEv ph d 245 15 L st M = zcont ph d 245 (zstep ph (zEm ph d) 0 16 0 [-1] L st M) := zEv_step rfl
theorem e245_16 (ph : Bool) (d : Nat) (L st : List zV) (M : zM) : zEv ph d 245 16 L st M = zcont ph d 245 (zstep ph (zEm ph d) 5 17 0 [2] L st M) := zEv_step rfl
theorem e245_17 (ph : Bool) (d : Nat) (L st : List zV) (M : zM) : zEv ph d 245 17 L st M = zcont ph d 245 (zstep ph (zEm ph d) 0 18 0 [0] L st M) := zEv_step rfl
theorem e245_18 (ph : Bool) (d : Nat) (L st : List zV) (M : zM) : zEv ph d 245 18 L st M = zcont ph d 245 (zstep ph (zEm ph d) 5 19 0 [3] L st M) := zEv_step rfl
theorem e245_19 (ph : Bool) (d : Nat) (L st : List zV) (M : zM) : zEv ph d 245 19 L st M = zcont ph d 245 (zstep ph (zEm ph d) 2 20 0 [3] L st M) := zEv_step rfl
theorem e245_20 (ph : Bool) (d : Nat) (L st : List zV) (M : zM) : zEv ph d 245 20 L st M = zcont ph d 245 (zstep ph (zEm ph d) 0 21 0 [1] L st M) := zEv_step rfl
theorem e245_21 (ph : Bool) (d : Nat) (L st : List zV) (M : zM) : zEv ph d 245 21 L st M = zcont ph d 245 (zstep ph (zEm ph d) 4 22 0 [0] L st M) := zEv_step rfl
theorem e245_22 (ph : Bool) (d : Nat) (L st : List zV) (M : zM) : zEv ph d 245 22 L st M = zcont ph d 245 (zstep ph (zEm ph d) 62 25 0 [30, 14, 2, 10, 368] L st M) := zEv_step rfl
theorem e245_25 (ph : Bool) (d : Nat) (L st : List zV) (M : zM) : zEv ph d 245 25 L st M = zcont ph d 245 (zstep ph (zEm ph d) 0 26 0 [1] L st M) := zEv_step rfl
theorem e245_26 (ph : Bool) (d : Nat) (L st : List zV) (M : zM) : zEv ph d 245 26 L st M = zcont ph d 245 (zstep ph (zEm ph d) 85 27 0 [] L st M) := zEv_step rfl
theorem e245_27 (ph : Bool) (d : Nat) (L st : List zV) (M : zM) : zEv ph d 245 27 L st M = zcont ph d 245 (zstep ph (zEm ph d) 19 28 0 [] L st M) := zEv_step rfl
theorem e245_28 (ph : Bool) (d : Nat) (L st : List zV) (M : zM) : zEv ph d 245 28 L st M = zcont ph d 245 (zstep ph (zEm ph d) 49 31 103 [] L st M) := zEv_step rfl
theorem e245_31 (ph : Bool) (d : Nat) (L st : List zV) (M : zM) : zEv ph d 245 31 L st M = zcont ph d 245 (zstep ph (zEm ph d) 2 32 0 [3] L st M) := zEv_step rfl
theorem e245_32 (ph : Bool) (d : Nat) (L st : List zV) (M : zM) : zEv ph d 245 32 L st M = zcont ph d 245 (zstep ph (zEm ph d) 4 33 0 [0] L st M) := zEv_step rfl
theorem e245_33 (ph : Bool) (d : Nat) (L st : List zV) (M : zM) : zEv ph d 245 33 L st M = zcont ph d 245 (zstep ph (zEm ph d) 62 36 0 [30, 14, 2, 10, 368] L st M) := zEv_step rfl
theorem e245_36 (ph : Bool) (d : Nat) (L st : List zV) (M : zM) : zEv ph d 245 36 L st M = zcont ph d 245 (zstep ph (zEm ph d) 0 38 0 [101] L st M) := zEv_step rfl
theorem e245_38 (ph : Bool) (d : Nat) (L st : List zV) (M : zM) : zEv ph d 245 38 L st M = zcont ph d 245 (zstep ph (zEm ph d) 2 39 0 [1] L st M) := zEv_step rfl
theorem e245_39 (ph : Bool) (d : Nat) (L st : List zV) (M : zM) : zEv ph d 245 39 L st M = zcont ph d 245 (zstep ph (zEm ph d) 10 40 0 [] L st M) := zEv_step rfl
theorem e245_40 (ph : Bool) (d : Nat) (L st : List zV) (M : zM) : zEv ph d 245 40 L st M = zcont ph d 245 (zstep ph (zEm ph d) 85 41 0 [] L st M) := zEv_step rfl
theorem e245_41 (ph : Bool) (d : Nat) (L st : List zV) (M : zM) : zEv ph d 245 41 L st M = zcont ph d 245 (zstep ph (zEm ph d) 16 42 0 [] L st M) := zEv_step rfl
theorem e245_42 (ph : Bool) (d : Nat) (L st : List zV) (M : zM) : zEv ph d 245 42 L st M = zcont ph d 245 (zstep ph (zEm ph d) 41 45 97 [] L st M) := zEv_step rfl
theorem e245_45 (ph : Bool) (d : Nat) (L st : List zV) (M : zM) : zEv ph d 245 45 L st M = zcont ph d 245 (zstep ph (zEm ph d) 2 46 0 [2] L st M) := zEv_step rfl
theorem e245_46 (ph : Bool) (d : Nat) (L st : List zV) (M : zM) : zEv ph d 245 46 L st M = zcont ph d 245 (zstep ph (zEm ph d) 0 47 0 [-1] L st M) := zEv_step rfl
theorem e245_47 (ph : Bool) (d : Nat) (L st : List zV) (M : zM) : zEv ph d 245 47 L st M = zcont ph d 245 (zstep ph (zEm ph d) 46 50 64 [] L st M) := zEv_step rfl
theorem e245_50 (ph : Bool) (d : Nat) (L st : List zV) (M : zM) : zEv ph d 245 50 L st M = zcont ph d 245 (zstep ph (zEm ph d) 2 51 0 [3] L st M) := zEv_step rfl
theorem e245_51 (ph : Bool) (d : Nat) (L st : List zV) (M : zM) : zEv ph d 245 51 L st M = zcont ph d 245 (zstep ph (zEm ph d) 70 54 170 [1, 1, -1] L st M) := zEv_step rfl
theorem e245_54 (ph : Bool) (d : Nat) (L st : List zV) (M : zM) : zEv ph d 245 54 L st M = zcont ph d 245 (zstep ph (zEm ph d) 2 55 0 [2] L st M) := zEv_step rfl
theorem e245_55 (ph : Bool) (d : Nat) (L st : List zV) (M : zM) : zEv ph d 245 55 L st M = zcont ph d 245 (zstep ph (zEm ph d) 70 58 170 [1, 1, -1] L st M) := zEv_step rfl
theorem e245_58 (ph : Bool) (d : Nat) (L st : List zV) (M : zM) : zEv ph d 245 58 L st M = zcont ph d 245 (zstep ph (zEm ph d) 48 61 64 [] L st M) := zEv_step rfl
theorem e245_61 (ph : Bool) (d : Nat) (L st : List zV) (M : zM) : zEv ph d 245 61 L st M = zcont ph d 245 (zstep ph (zEm ph d) 52 64 97 [] L st M) := zEv_step rfl
theorem e245_64 (ph : Bool) (d : Nat) (L st : List zV) (M : zM) : zEv ph d 245 64 L st M = zcont ph d 245 (zstep ph (zEm ph d) 4 65 0 [0] L st M) := zEv_step rfl
theorem e245_65 (ph : Bool) (d : Nat) (L st : List zV) (M : zM) : zEv ph d 245 65 L st M = zcont ph d 245 (zstep ph (zEm ph d) 4 66 0 [0] L st M) := zEv_step rfl
theorem e245_66 (ph : Bool) (d : Nat) (L st : List zV) (M : zM) : zEv ph d 245 66 L st M = zcont ph d 245 (zstep ph (zEm ph d) 62 69 0 [30, 14, 2, 10, 368] L st M) := zEv_step rfl
theorem e245_69 (ph : Bool) (d : Nat) (L st : List zV) (M : zM) : zEv ph d 245 69 L st M = zcont ph d 245 (zstep ph (zEm ph d) 0 71 0 [101] L st M) := zEv_step rfl
theorem e245_71 (ph : Bool) (d : Nat) (L st : List zV) (M : zM) : zEv ph d 245 71 L st M = zcont ph d 245 (zstep ph (zEm ph d) 2 72 0 [1] L st M) := zEv_step rfl
theorem e245_72 (ph : Bool) (d : Nat) (L st : List zV) (M : zM) : zEv ph d 245 72 L st M = zcont ph d 245 (zstep ph (zEm ph d) 10 73 0 [] L st M) := zEv_step rfl
theorem e245_73 (ph : Bool) (d : Nat) (L st : List zV) (M : zM) : zEv ph d 245 73 L st M = zcont ph d 245 (zstep ph (zEm ph d) 85 74 0 [] L st M) := zEv_step rfl
theorem e245_74 (ph : Bool) (d : Nat) (L st : List zV) (M : zM) : zEv ph d 245 74 L st M = zcont ph d 245 (zstep ph (zEm ph d) 2 75 0 [3] L st M) := zEv_step rfl
theorem e245_75 (ph : Bool) (d : Nat) (L st : List zV) (M : zM) : zEv ph d 245 75 L st M = zcont ph d 245 (zstep ph (zEm ph d) 17 76 0 [] L st M) := zEv_step rfl
theorem e245_76 (ph : Bool) (d : Nat) (L st : List zV) (M : zM) : zEv ph d 245 76 L st M = zcont ph d 245 (zstep ph (zEm ph d) 4 77 0 [0] L st M) := zEv_step rfl
theorem e245_77 (ph : Bool) (d : Nat) (L st : List zV) (M : zM) : zEv ph d 245 77 L st M = zcont ph d 245 (zstep ph (zEm ph d) 62 80 0 [30, 14, 2, 10, 368] L st M) := zEv_step rfl
theorem e245_80 (ph : Bool) (d : Nat) (L st : List zV) (M : zM) : zEv ph d 245 80 L st M = zcont ph d 245 (zstep ph (zEm ph d) 0 82 0 [106] L st M) := zEv_step rfl
theorem e245_82 (ph : Bool) (d : Nat) (L st : List zV) (M : zM) : zEv ph d 245 82 L st M = zcont ph d 245 (zstep ph (zEm ph d) 2 83 0 [1] L st M) := zEv_step rfl
theorem e245_83 (ph : Bool) (d : Nat) (L st : List zV) (M : zM) : zEv ph d 245 83 L st M = zcont ph d 245 (zstep ph (zEm ph d) 10 84 0 [] L st M) := zEv_step rfl
theorem e245_84 (ph : Bool) (d : Nat) (L st : List zV) (M : zM) : zEv ph d 245 84 L st M = zcont ph d 245 (zstep ph (zEm ph d) 85 85 0 [] L st M) := zEv_step rfl
theorem e245_85 (ph : Bool) (d : Nat) (L st : List zV) (M : zM) : zEv ph d 245 85 L st M = zcont ph d 245 (zstep ph (zEm ph d) 2 86 0 [3] L st M) := zEv_step rfl
theorem e245_86 (ph : Bool) (d : Nat) (L st : List zV) (M : zM) : zEv ph d 245 86 L st M = zcont ph d 245 (zstep ph (zEm ph d) 0 87 0 [-1] L st M) := zEv_step rfl
theorem e245_87 (ph : Bool) (d : Nat) (L st : List zV) (M : zM) : zEv ph d 245 87 L st M = zcont ph d 245 (zstep ph (zEm ph d) 18 88 0 [] L st M) := zEv_step rfl
theorem e245_88 (ph : Bool) (d : Nat) (L st : List zV) (M : zM) : zEv ph d 245 88 L st M = zcont ph d 245 (zstep ph (zEm ph d) 16 89 0 [] L st M) := zEv_step rfl
theorem e245_89 (ph : Bool) (d : Nat) (L st : List zV) (M : zM) : zEv ph d 245 89 L st M = zcont ph d 245 (zstep ph (zEm ph d) 70 92 213 [3, 1, 30] L st M) := zEv_step rfl
theorem e245_92 (ph : Bool) (d : Nat) (L st : List zV) (M : zM) : zEv ph d 245 92 L st M = zcont ph d 245 (zstep ph (zEm ph d) 40 95 97 [] L st M) := zEv_step rfl
theorem e245_95 (ph : Bool) (d : Nat) (L st : List zV) (M : zM) : zEv ph d 245 95 L st M = zcont ph d 245 (zstep ph (zEm ph d) 2 96 0 [3] L st M) := zEv_step rfl
theorem e245_96 (ph : Bool) (d : Nat) (L st : List zV) (M : zM) : zEv ph d 245 96 L st M = zcont ph d 245 (zstep ph (zEm ph d) 5 97 0 [2] L st M) := zEv_step rfl
theorem e245_97 (ph : Bool) (d : Nat) (L st : List zV) (M : zM) : zEv ph d 245 97 L st M = zcont ph d 245 (zstep ph (zEm ph d) 8 100 0 [3, 1] L st M) := zEv_step rfl
theorem e245_100 (ph : Bool) (d : Nat) (L st : List zV) (M : zM) : zEv ph d 245 100 L st M = zcont ph d 245 (zstep ph (zEm ph d) 52 103 19 [] L st M) := zEv_step rfl
theorem e245_103 (ph : Bool) (d : Nat) (L st : List zV) (M : zM) : zEv ph d 245 103 L st M = zcont ph d 245 (zstep ph (zEm ph d) 2 104 0 [2] L st M) := zEv_step rfl
theorem e245_104 (ph : Bool) (d : Nat) (L st : List zV) (M : zM) : zEv ph d 245 104 L st M = zcont ph d 245 (zstep ph (zEm ph d) 0 105 0 [-1] L st M) := zEv_step rfl
theorem e245_105 (ph : Bool) (d : Nat) (L st : List zV) (M : zM) : zEv ph d 245 105 L st M = zcont ph d 245 (zstep ph (zEm ph d) 47 108 110 [] L st M) := zEv_step rfl
theorem e245_108 (ph : Bool) (d : Nat) (L st : List zV) (M : zM) : zEv ph d 245 108 L st M = zcont ph d 245 (zstep ph (zEm ph d) 0 109 0 [-1] L st M) := zEv_step rfl
theorem e245_109 (ph : Bool) (d : Nat) (L st : List zV) (M : zM) : zEv ph d 245 109 L st M = zcont ph d 245 (zstep ph (zEm ph d) 80 110 0 [] L st M) := zEv_step rfl
theorem e245_110 (ph : Bool) (d : Nat) (L st : List zV) (M : zM) : zEv ph d 245 110 L st M = zcont ph d 245 (zstep ph (zEm ph d) 4 111 0 [0] L st M) := zEv_step rfl
theorem e245_111 (ph : Bool) (d : Nat) (L st : List zV) (M : zM) : zEv ph d 245 111 L st M = zcont ph d 245 (zstep ph (zEm ph d) 2 112 0 [2] L st M) := zEv_step rfl
theorem e245_112 (ph : Bool) (d : Nat) (L st : List zV) (M : zM) : zEv ph d 245 112 L st M = zcont ph d 245 (zstep ph (zEm ph d) 65 115 0 [30, 25] L st M) := zEv_step rfl
theorem e245_115 (ph : Bool) (d : Nat) (L st : List zV) (M : zM) : zEv ph d 245 115 L st M = zcont ph d 245 (zstep ph (zEm ph d) 2 116 0 [2] L st M) := zEv_step rfl
theorem e245_116 (ph : Bool) (d : Nat) (L st : List zV) (M : zM) : zEv ph d 245 116 L st M = zcont ph d 245 (zstep ph (zEm ph d) 70 119 170 [1, 1, -1] L st M) := zEv_step rfl
theorem e245_119 (ph : Bool) (d : Nat) (L st : List zV) (M : zM) : zEv ph d 245 119 L st M = zcont ph d 245 (zstep ph (zEm ph d) 80 120 0 [] L st M) := zEv_step rfl
theorem m248 (ph : Bool) (d : Nat) (a x0 p0 y0 : Int) (M : zM) : zEm ph (d + 1) 248 [(30, a, x0), (0, p0, y0)] M = zEv ph d 248 0 [(30, a, x0), (0, p0, y0), (3, 0, 0), (3, 0, 0), (3, 0, 0)] [] M := rfl
theorem e248_0 (ph : Bool) (d : Nat) (L st : List zV) (M : zM) : zEv ph d 248 0 L st M = zcont ph d 248 (zstep ph (zEm ph d) 4 1 0 [0] L st M) := zEv_step rfl
theorem e248_1 (ph : Bool) (d : Nat) (L st : List zV) (M : zM) : zEv ph d 248 1 L st M = zcont ph d 248 (zstep ph (zEm ph d) 0 2 0 [0] L st M) := zEv_step rfl
theorem e248_2 (ph : Bool) (d : Nat) (L st : List zV) (M : zM) : zEv ph d 248 2 L st M = zcont ph d 248 (zstep ph (zEm ph d) 65 5 0 [30, 0] L st M) := zEv_step rfl
theorem e248_5 (ph : Bool) (d : Nat) (L st : List zV) (M : zM) : zEv ph d 248 5 L st M = zcont ph d 248 (zstep ph (zEm ph d) 4 6 0 [0] L st M) := zEv_step rfl
theorem e248_6 (ph : Bool) (d : Nat) (L st : List zV) (M : zM) : zEv ph d 248 6 L st M = zcont ph d 248 (zstep ph (zEm ph d) 2 7 0 [1] L st M) := zEv_step rfl
theorem e248_7 (ph : Bool) (d : Nat) (L st : List zV) (M : zM) : zEv ph d 248 7 L st M = zcont ph d 248 (zstep ph (zEm ph d) 70 10 206 [2, 1, 30] L st M) := zEv_step rfl
theorem e248_10 (ph : Bool) (d : Nat) (L st : List zV) (M : zM) : zEv ph d 248 10 L st M = zcont ph d 248 (zstep ph (zEm ph d) 41 13 15 [] L st M) := zEv_step rfl
theorem e248_13 (ph : Bool) (d : Nat) (L st : List zV) (M : zM) : zEv ph d 248 13 L st M = zcont ph d 248 (zstep ph (zEm ph d) 0 14 0 [-1] L st M) := zEv_step rfl
theorem e248_14 (ph : Bool) (d : Nat) (L st : List zV) (M : zM) : zEv ph d 248 14 L st M = zcont ph d 248 (zstep ph (zEm ph d) 80 15 0 [] L st M) := zEv_step rfl
theorem e248_15 (ph : Bool) (d : Nat) (L st : List zV) (M : zM) : zEv ph d 248 15 L st M = zcont ph d 248 (zstep ph (zEm ph d) 0 16 0 [-1] L st M) := zEv_step rfl
theorem e248_16 (ph : Bool) (d : Nat) (L st : List zV) (M : zM) : zEv ph d 248 16 L st M = zcont ph d 248 (zstep ph (zEm ph d) 5 17 0 [2] L st M) := zEv_step rfl
theorem e248_17 (ph : Bool) (d : Nat) (L st : List zV) (M : zM) : zEv ph d 248 17 L st M = zcont ph d 248 (zstep ph (zEm ph d) 0 18 0 [0] L st M) := zEv_step rfl
theorem e248_18 (ph : Bool) (d : Nat) (L st : List zV) (M : zM) : zEv ph d 248 18 L st M = zcont ph d 248 (zstep ph (zEm ph d) 5 19 0 [3] L st M) := zEv_step rfl
theorem e248_19 (ph : Bool) (d : Nat) (L st : List zV) (M : zM) : zEv ph d 248 19 L st M = zcont ph d 248 (zstep ph (zEm ph d) 2 20 0 [3] L st M) := zEv_step rfl
theorem e248_20 (ph : Bool) (d : Nat) (L st : List zV) (M : zM) : zEv ph d 248 20 L st M = zcont ph d 248 (zstep ph (zEm ph d) 0 21 0 [1] L st M) := zEv_step rfl
theorem e248_21 (ph : Bool) (d : Nat) (L st : List zV) (M : zM) : zEv ph d 248 21 L st M = zcont ph d 248 (zstep ph (zEm ph d) 4 22 0 [0] L st M) := zEv_step rfl
theorem e248_22 (ph : Bool) (d : Nat) (L st : List zV) (M : zM) : zEv ph d 248 22 L st M = zcont ph d 248 (zstep ph (zEm ph d) 62 25 0 [30, 14, 2, 10, 368] L st M) := zEv_step rfl
theorem e248_25 (ph : Bool) (d : Nat) (L st : List zV) (M : zM) : zEv ph d 248 25 L st M = zcont ph d 248 (zstep ph (zEm ph d) 0 26 0 [0] L st M) := zEv_step rfl
theorem e248_26 (ph : Bool) (d : Nat) (L st : List zV) (M : zM) : zEv ph d 248 26 L st M = zcont ph d 248 (zstep ph (zEm ph d) 85 27 0 [] L st M) := zEv_step rfl
theorem e248_27 (ph : Bool) (d : Nat) (L st : List zV) (M : zM) : zEv ph d 248 27 L st M = zcont ph d 248 (zstep ph (zEm ph d) 19 28 0 [] L st M) := zEv_step rfl
theorem e248_28 (ph : Bool) (d : Nat) (L st : List zV) (M : zM) : zEv ph d 248 28 L st M = zcont ph d 248 (zstep ph (zEm ph d) 49 31 98 [] L st M) := zEv_step rfl
theorem e248_31 (ph : Bool) (d : Nat) (L st : List zV) (M : zM) : zEv ph d 248 31 L st M = zcont ph d 248 (zstep ph (zEm ph d) 2 32 0 [2] L st M) := zEv_step rfl
theorem e248_32 (ph : Bool) (d : Nat) (L st : List zV) (M : zM) : zEv ph d 248 32 L st M = zcont ph d 248 (zstep ph (zEm ph d) 0 33 0 [-1] L st M) := zEv_step rfl
theorem e248_33 (ph : Bool) (d : Nat) (L st : List zV) (M : zM) : zEv ph d 248 33 L st M = zcont ph d 248 (zstep ph (zEm ph d) 46 36 50 [] L st M) := zEv_step rfl
theorem e248_36 (ph : Bool) (d : Nat) (L st : List zV) (M : zM) : zEv ph d 248 36 L st M = zcont ph d 248 (zstep ph (zEm ph d) 2 37 0 [3] L st M) := zEv_step rfl
theorem e248_37 (ph : Bool) (d : Nat) (L st : List zV) (M : zM) : zEv ph d 248 37 L st M = zcont ph d 248 (zstep ph (zEm ph d) 70 40 170 [1, 1, -1] L st M) := zEv_step rfl
theorem e248_40 (ph : Bool) (d : Nat) (L st : List zV) (M : zM) : zEv ph d 248 40 L st M = zcont ph d 248 (zstep ph (zEm ph d) 2 41 0 [2] L st M) := zEv_step rfl
theorem e248_41 (ph : Bool) (d : Nat) (L st : List zV) (M : zM) : zEv ph d 248 41 L st M = zcont ph d 248 (zstep ph (zEm ph d) 70 44 170 [1, 1, -1] L st M) := zEv_step rfl
theorem e248_44 (ph : Bool) (d : Nat) (L st : List zV) (M : zM) : zEv ph d 248 44 L st M = zcont ph d 248 (zstep ph (zEm ph d) 48 47 50 [] L st M) := zEv_step rfl
theorem e248_47 (ph : Bool) (d : Nat) (L st : List zV) (M : zM) : zEv ph d 248 47 L st M = zcont ph d 248 (zstep ph (zEm ph d) 52 50 92 [] L st M) := zEv_step rfl
theorem e248_50 (ph : Bool) (d : Nat) (L st : List zV) (M : zM) : zEv ph d 248 50 L st M = zcont ph d 248 (zstep ph (zEm ph d) 4 51 0 [0] L st M) := zEv_step rfl
theorem e248_51 (ph : Bool) (d : Nat) (L st : List zV) (M : zM) : zEv ph d 248 51 L st M = zcont ph d 248 (zstep ph (zEm ph d) 2 52 0 [3] L st M) := zEv_step rfl
theorem e248_52 (ph : Bool) (d : Nat) (L st : List zV) (M : zM) : zEv ph d 248 52 L st M = zcont ph d 248 (zstep ph (zEm ph d) 70 55 247 [2, 1, 30] L st M) := zEv_step rfl
theorem e248_55 (ph : Bool) (d : Nat) (L st : List zV) (M : zM) : zEv ph d 248 55 L st M = zcont ph d 248 (zstep ph (zEm ph d) 5 57 0 [4] L st M) := zEv_step rfl
theorem e248_57 (ph : Bool) (d : Nat) (L st : List zV) (M : zM) : zEv ph d 248 57 L st M = zcont ph d 248 (zstep ph (zEm ph d) 4 58 0 [0] L st M) := zEv_step rfl
theorem e248_58 (ph : Bool) (d : Nat) (L st : List zV) (M : zM) : zEv ph d 248 58 L st M = zcont ph d 248 (zstep ph (zEm ph d) 4 59 0 [0] L st M) := zEv_step rfl
theorem e248_59 (ph : Bool) (d : Nat) (L st : List zV) (M : zM) : zEv ph d 248 59 L st M = zcont ph d 248 (zstep ph (zEm ph d) 62 62 0 [30, 14, 2, 10, 368] L st M) := zEv_step rfl
theorem e248_62 (ph : Bool) (d : Nat) (L st : List zV) (M : zM) : zEv ph d 248 62 L st M = zcont ph d 248 (zstep ph (zEm ph d) 0 64 0 [101] L st M) := zEv_step rfl
theorem e248_64 (ph : Bool) (d : Nat) (L st : List zV) (M : zM) : zEv ph d 248 64 L st M = zcont ph d 248 (zstep ph (zEm ph d) 2 65 0 [1] L st M) := zEv_step rfl
theorem e248_65 (ph : Bool) (d : Nat) (L st : List zV) (M : zM) : zEv ph d 248 65 L st M = zcont ph d 248 (zstep ph (zEm ph d) 10 66 0 [] L st M) := zEv_step rfl
theorem e248_66 (ph : Bool) (d : Nat) (L st : List zV) (M : zM) : zEv ph d 248 66 L st M = zcont ph d 248 (zstep ph (zEm ph d) 85 67 0 [] L st M) := zEv_step rfl
theorem e248_67 (ph : Bool) (d : Nat) (L st : List zV) (M : zM) : zEv ph d 248 67 L st M = zcont ph d 248 (zstep ph (zEm ph d) 2 69 0 [4] L st M) := zEv_step rfl
theorem e248_69 (ph : Bool) (d : Nat) (L st : List zV) (M : zM) : zEv ph d 248 69 L st M = zcont ph d 248 (zstep ph (zEm ph d) 17 70 0 [] L st M) := zEv_step rfl
theorem e248_70 (ph : Bool) (d : Nat) (L st : List zV) (M : zM) : zEv ph d 248 70 L st M = zcont ph d 248 (zstep ph (zEm ph d) 4 71 0 [0] L st M) := zEv_step rfl
theorem e248_71 (ph : Bool) (d : Nat) (L st : List zV) (M : zM) : zEv ph d 248 71 L st M = zcont ph d 248 (zstep ph (zEm ph d) 62 74 0 [30, 14, 2, 10, 368] L st M) := zEv_step rfl
theorem e248_74 (ph : Bool) (d : Nat) (L st : List zV) (M : zM) : zEv ph d 248 74 L st M = zcont ph d 248 (zstep ph (zEm ph d) 0 76 0 [106] L st M) := zEv_step rfl
theorem e248_76 (ph : Bool) (d : Nat) (L st : List zV) (M : zM) : zEv ph d 248 76 L st M = zcont ph d 248 (zstep ph (zEm ph d) 2 77 0 [1] L st M) := zEv_step rfl
theorem e248_77 (ph : Bool) (d : Nat) (L st : List zV) (M : zM) : zEv ph d 248 77 L st M = zcont ph d 248 (zstep ph (zEm ph d) 10 78 0 [] L st M) := zEv_step rfl
theorem e248_78 (ph : Bool) (d : Nat) (L st : List zV) (M : zM) : zEv ph d 248 78 L st M = zcont ph d 248 (zstep ph (zEm ph d) 85 79 0 [] L st M) := zEv_step rfl
theorem e248_79 (ph : Bool) (d : Nat) (L st : List zV) (M : zM) : zEv ph d 248 79 L st M = zcont ph d 248 (zstep ph (zEm ph d) 2 81 0 [4] L st M) := zEv_step rfl
theorem e248_81 (ph : Bool) (d : Nat) (L st : List zV) (M : zM) : zEv ph d 248 81 L st M = zcont ph d 248 (zstep ph (zEm ph d) 0 82 0 [-1] L st M) := zEv_step rfl
theorem e248_82 (ph : Bool) (d : Nat) (L st : List zV) (M : zM) : zEv ph d 248 82 L st M = zcont ph d 248 (zstep ph (zEm ph d) 18 83 0 [] L st M) := zEv_step rfl
theorem e248_83 (ph : Bool) (d : Nat) (L st : List zV) (M : zM) : zEv ph d 248 83 L st M = zcont ph d 248 (zstep ph (zEm ph d) 16 84 0 [] L st M) := zEv_step rfl
theorem e248_84 (ph : Bool) (d : Nat) (L st : List zV) (M : zM) : zEv ph d 248 84 L st M = zcont ph d 248 (zstep ph (zEm ph d) 70 87 213 [3, 1, 30] L st M) := zEv_step rfl
theorem e248_87 (ph : Bool) (d : Nat) (L st : List zV) (M : zM) : zEv ph d 248 87 L st M = zcont ph d 248 (zstep ph (zEm ph d) 40 90 92 [] L st M) := zEv_step rfl
theorem e248_90 (ph : Bool) (d : Nat) (L st : List zV) (M : zM) : zEv ph d 248 90 L st M = zcont ph d 248 (zstep ph (zEm ph d) 2 91 0 [3] L st M) := zEv_step rfl
theorem e248_91 (ph : Bool) (d : Nat) (L st : List zV) (M : zM) : zEv ph d 248 91 L st M = zcont ph d 248 (zstep ph (zEm ph d) 5 92 0 [2] L st M) := zEv_step rfl
theorem e248_92 (ph : Bool) (d : Nat) (L st : List zV) (M : zM) : zEv ph d 248 92 L st M = zcont ph d 248 (zstep ph (zEm ph d) 8 95 0 [3, 1] L st M) := zEv_step rfl
theorem e248_95 (ph : Bool) (d : Nat) (L st : List zV) (M : zM) : zEv ph d 248 95 L st M = zcont ph d 248 (zstep ph (zEm ph d) 52 98 19 [] L st M) := zEv_step rfl
theorem e248_98 (ph : Bool) (d : Nat) (L st : List zV) (M : zM) : zEv ph d 248 98 L st M = zcont ph d 248 (zstep ph (zEm ph d) 2 99 0 [2] L st M) := zEv_step rfl
theorem e248_99 (ph : Bool) (d : Nat) (L st : List zV) (M : zM) : zEv ph d 248 99 L st M = zcont ph d 248 (zstep ph (zEm ph d) 0 100 0 [-1] L st M) := zEv_step rfl
theorem e248_100 (ph : Bool) (d : Nat) (L st : List zV) (M : zM) : zEv ph d 248 100 L st M = zcont ph d 248 (zstep ph (zEm ph d) 47 103 105 [] L st M) := zEv_step rfl
theorem e248_103 (ph : Bool) (d : Nat) (L st : List zV) (M : zM) : zEv ph d 248 103 L st M = zcont ph d 248 (zstep ph (zEm ph d) 0 104 0 [-1] L st M) := zEv_step rfl
theorem e248_104 (ph : Bool) (d : Nat) (L st : List zV) (M : zM) : zEv ph d 248 104 L st M = zcont ph d 248 (zstep ph (zEm ph d) 80 105 0 [] L st M) := zEv_step rfl
theorem e248_105 (ph : Bool) (d : Nat) (L st : List zV) (M : zM) : zEv ph d 248 105 L st M = zcont ph d 248 (zstep ph (zEm ph d) 4 106 0 [0] L st M) := zEv_step rfl
theorem e248_106 (ph : Bool) (d : Nat) (L st : List zV) (M : zM) : zEv ph d 248 106 L st M = zcont ph d 248 (zstep ph (zEm ph d) 2 107 0 [2] L st M) := zEv_step rfl
theorem e248_107 (ph : Bool) (d : Nat) (L st : List zV) (M : zM) : zEv ph d 248 107 L st M = zcont ph d 248 (zstep ph (zEm ph d) 65 110 0 [30, 26] L st M) := zEv_step rfl
theorem e248_110 (ph : Bool) (d : Nat) (L st : List zV) (M : zM) : zEv ph d 248 110 L st M = zcont ph d 248 (zstep ph (zEm ph d) 2 111 0 [2] L st M) := zEv_step rfl
theorem e248_111 (ph : Bool) (d : Nat) (L st : List zV) (M : zM) : zEv ph d 248 111 L st M = zcont ph d 248 (zstep ph (zEm ph d) 70 114 170 [1, 1, -1] L st M) := zEv_step rfl
theorem e248_114 (ph : Bool) (d : Nat) (L st : List zV) (M : zM) : zEv ph d 248 114 L st M = zcont ph d 248 (zstep ph (zEm ph d) 80 115 0 [] L st M) := zEv_step rfl
theorem m247 (ph : Bool) (d : Nat) (a x0 p0 y0 : Int) (M : zM) : zEm ph (d + 1) 247 [(30, a, x0), (0, p0, y0)] M = zEv ph d 247 0 [(30, a, x0), (0, p0, y0), (3, 0, 0), (3, 0, 0)] [] M := rfl
theorem e247_0 (ph : Bool) (d : Nat) (L st : List zV) (M : zM) : zEv ph d 247 0 L st M = zcont ph d 247 (zstep ph (zEm ph d) 0 1 0 [0] L st M) := zEv_step rfl
theorem e247_1 (ph : Bool) (d : Nat) (L st : List zV) (M : zM) : zEv ph d 247 1 L st M = zcont ph d 247 (zstep ph (zEm ph d) 5 2 0 [2] L st M) := zEv_step rfl
theorem e247_2 (ph : Bool) (d : Nat) (L st : List zV) (M : zM) : zEv ph d 247 2 L st M = zcont ph d 247 (zstep ph (zEm ph d) 0 3 0 [0] L st M) := zEv_step rfl
theorem e247_3 (ph : Bool) (d : Nat) (L st : List zV) (M : zM) : zEv ph d 247 3 L st M = zcont ph d 247 (zstep ph (zEm ph d) 5 4 0 [3] L st M) := zEv_step rfl
theorem e247_4 (ph : Bool) (d : Nat) (L st : List zV) (M : zM) : zEv ph d 247 4 L st M = zcont ph d 247 (zstep ph (zEm ph d) 2 5 0 [3] L st M) := zEv_step rfl
theorem e247_5 (ph : Bool) (d : Nat) (L st : List zV) (M : zM) : zEv ph d 247 5 L st M = zcont ph d 247 (zstep ph (zEm ph d) 4 6 0 [0] L st M) := zEv_step rfl
theorem e247_6 (ph : Bool) (d : Nat) (L st : List zV) (M : zM) : zEv ph d 247 6 L st M = zcont ph d 247 (zstep ph (zEm ph d) 62 9 0 [30, 14, 2, 10, 368] L st M) := zEv_step rfl
theorem e247_9 (ph : Bool) (d : Nat) (L st : List zV) (M : zM) : zEv ph d 247 9 L st M = zcont ph d 247 (zstep ph (zEm ph d) 0 10 0 [1] L st M) := zEv_step rfl
theorem e247_10 (ph : Bool) (d : Nat) (L st : List zV) (M : zM) : zEv ph d 247 10 L st M = zcont ph d 247 (zstep ph (zEm ph d) 85 11 0 [] L st M) := zEv_step rfl
theorem e247_11 (ph : Bool) (d : Nat) (L st : List zV) (M : zM) : zEv ph d 247 11 L st M = zcont ph d 247 (zstep ph (zEm ph d) 49 14 42 [] L st M) := zEv_step rfl
theorem e247_14 (ph : Bool) (d : Nat) (L st : List zV) (M : zM) : zEv ph d 247 14 L st M = zcont ph d 247 (zstep ph (zEm ph d) 2 15 0 [1] L st M) := zEv_step rfl
theorem e247_15 (ph : Bool) (d : Nat) (L st : List zV) (M : zM) : zEv ph d 247 15 L st M = zcont ph d 247 (zstep ph (zEm ph d) 4 16 0 [0] L st M) := zEv_step rfl
theorem e247_16 (ph : Bool) (d : Nat) (L st : List zV) (M : zM) : zEv ph d 247 16 L st M = zcont ph d 247 (zstep ph (zEm ph d) 62 19 0 [30, 14, 2, 10, 368] L st M) := zEv_step rfl
theorem e247_19 (ph : Bool) (d : Nat) (L st : List zV) (M : zM) : zEv ph d 247 19 L st M = zcont ph d 247 (zstep ph (zEm ph d) 0 21 0 [9] L st M) := zEv_step rfl
theorem e247_21 (ph : Bool) (d : Nat) (L st : List zV) (M : zM) : zEv ph d 247 21 L st M = zcont ph d 247 (zstep ph (zEm ph d) 2 22 0 [3] L st M) := zEv_step rfl
theorem e247_22 (ph : Bool) (d : Nat) (L st : List zV) (M : zM) : zEv ph d 247 22 L st M = zcont ph d 247 (zstep ph (zEm ph d) 10 23 0 [] L st M) := zEv_step rfl
theorem e247_23 (ph : Bool) (d : Nat) (L st : List zV) (M : zM) : zEv ph d 247 23 L st M = zcont ph d 247 (zstep ph (zEm ph d) 85 24 0 [] L st M) := zEv_step rfl
theorem e247_24 (ph : Bool) (d : Nat) (L st : List zV) (M : zM) : zEv ph d 247 24 L st M = zcont ph d 247 (zstep ph (zEm ph d) 70 27 169 [2, 1, -1] L st M) := zEv_step rfl
theorem e247_27 (ph : Bool) (d : Nat) (L st : List zV) (M : zM) : zEv ph d 247 27 L st M = zcont ph d 247 (zstep ph (zEm ph d) 40 30 36 [] L st M) := zEv_step rfl
theorem e247_30 (ph : Bool) (d : Nat) (L st : List zV) (M : zM) : zEv ph d 247 30 L st M = zcont ph d 247 (zstep ph (zEm ph d) 2 31 0 [2] L st M) := zEv_step rfl
theorem e247_31 (ph : Bool) (d : Nat) (L st : List zV) (M : zM) : zEv ph d 247 31 L st M = zcont ph d 247 (zstep ph (zEm ph d) 0 32 0 [1] L st M) := zEv_step rfl
theorem e247_32 (ph : Bool) (d : Nat) (L st : List zV) (M : zM) : zEv ph d 247 32 L st M = zcont ph d 247 (zstep ph (zEm ph d) 2 33 0 [3] L st M) := zEv_step rfl
theorem e247_33 (ph : Bool) (d : Nat) (L st : List zV) (M : zM) : zEv ph d 247 33 L st M = zcont ph d 247 (zstep ph (zEm ph d) 19 34 0 [] L st M) := zEv_step rfl
theorem e247_34 (ph : Bool) (d : Nat) (L st : List zV) (M : zM) : zEv ph d 247 34 L st M = zcont ph d 247 (zstep ph (zEm ph d) 17 35 0 [] L st M) := zEv_step rfl
theorem e247_35 (ph : Bool) (d : Nat) (L st : List zV) (M : zM) : zEv ph d 247 35 L st M = zcont ph d 247 (zstep ph (zEm ph d) 5 36 0 [2] L st M) := zEv_step rfl
theorem e247_36 (ph : Bool) (d : Nat) (L st : List zV) (M : zM) : zEv ph d 247 36 L st M = zcont ph d 247 (zstep ph (zEm ph d) 8 39 0 [3, 1] L st M) := zEv_step rfl
theorem e247_39 (ph : Bool) (d : Nat) (L st : List zV) (M : zM) : zEv ph d 247 39 L st M = zcont ph d 247 (zstep ph (zEm ph d) 52 42 4 [] L st M) := zEv_step rfl
theorem e247_42 (ph : Bool) (d : Nat) (L st : List zV) (M : zM) : zEv ph d 247 42 L st M = zcont ph d 247 (zstep ph (zEm ph d) 2 43 0 [2] L st M) := zEv_step rfl
theorem e247_43 (ph : Bool) (d : Nat) (L st : List zV) (M : zM) : zEv ph d 247 43 L st M = zcont ph d 247 (zstep ph (zEm ph d) 80 44 0 [] L st M) := zEv_step rfl
theorem c_isFewer (d : Nat) (s y b y2 : Int) (M : zM) (s0 : 0 ≤ s) (s1 : s < 1024) (b0 : -1 ≤ b) (b1 : b < 1024) : zEm true (d + 2) 52 [(0, s, y), (0, b, y2)] M = some ((0, if sFewer s b = true then 1 else 0, 0), M) := by
  unfold sFewer
  by_cases c : b = -1
  · simp (disch := first | assumption | exact zrm0 | exact zrm1 _ | exact zrm2 _ _ | exact zrm3 _ _ _ | exact zrm4 _ _ _ _ | omega) only [m52, ↓k_dp, ↓k_dn, k_dp, k_dn, k_dT, k_dF, k_ip, k_in, if_true, if_false, ne_eq, not_true_eq_false, not_false_eq_true, Int.reduceAdd, zup_a, zup_e, zup_j, z32_id, k_il1, k_ic, k_iceq, k_il0, k_s1r, k_icge, k_goto, k_rz, zb0_some, zb1_some, e52_0, e52_1, e52_2, e52_5, e52_6, e52_9, e52_10, e52_13, e52_16, e52_17, e52_20, e52_21, decide_eq_true c, Bool.true_or]
  · by_cases c2 : kB 10 s < kB 10 b
    · simp (disch := first | assumption | exact zrm0 | exact zrm1 _ | exact zrm2 _ _ | exact zrm3 _ _ _ | exact zrm4 _ _ _ _ | omega) only [m52, ↓k_dp, ↓k_dn, k_dp, k_dn, k_dT, k_dF, k_ip, k_in, if_true, if_false, ne_eq, not_true_eq_false, not_false_eq_true, Int.reduceAdd, zup_a, zup_e, zup_j, z32_id, k_il1, k_ic, k_iceq, k_il0, k_s1r, k_icge, k_goto, k_rz, zb0_some, zb1_some, e52_0, e52_1, e52_2, e52_5, e52_6, e52_9, e52_10, e52_13, e52_16, e52_17, e52_20, e52_21, decide_eq_false c, decide_eq_true c2, Bool.or_true, s_bitCount]
    · simp (disch := first | assumption | exact zrm0 | exact zrm1 _ | exact zrm2 _ _ | exact zrm3 _ _ _ | exact zrm4 _ _ _ _ | omega) only [m52, ↓k_dp, ↓k_dn, k_dp, k_dn, k_dT, k_dF, k_ip, k_in, if_true, if_false, ne_eq, not_true_eq_false, not_false_eq_true, Int.reduceAdd, zup_a, zup_e, zup_j, z32_id, k_il1, k_ic, k_iceq, k_il0, k_s1r, k_icge, k_goto, k_rz, zb0_some, zb1_some, e52_0, e52_1, e52_2, e52_5, e52_6, e52_9, e52_10, e52_13, e52_16, e52_17, e52_20, e52_21, decide_eq_false c, decide_eq_false c2, Bool.or_false, Bool.false_eq_true, s_bitCount]
theorem c_carriesWith (d : Nat) (x0 q y s y2 : Int) (M : zM) (hG : okG (zvG M 30)) (q0 : 0 ≤ q) (q1 : q < 5) : zEm true (d + 5) 53 [(29, 0, x0), (0, q, y), (0, s, y2)] M = some ((0, if sCar (zvS M 37) (zvG M 30) (zor (zvS M 37 3 q) s) (zand (zvS M 37 4 q) (zxor s (-1))) = true then 1 else 0, 0), M) := by
  rw [zvS_3 q0 q1, zvS_4 q0 q1]
  by_cases c : sCar (zvS M 37) (zvG M 30) (zor (M (37 + 3) q) s) (zand (M (37 + 4) q) (zxor s (-1))) = true
  · have c2 : sCar (zvS M 37) (zvG M 30) (zor (M 40 q) s) (zand (M 41 q) (zxor s (-1))) = true := c
    simp (disch := first | assumption | exact zrm0 | exact zrm1 _ | exact zrm2 _ _ | exact zrm3 _ _ _ | exact zrm4 _ _ _ _ | omega) only [m53, ↓k_dp, ↓k_dn, k_dp, k_dn, k_dT, k_dF, k_ip, k_in, if_true, if_false, ne_eq, not_true_eq_false, not_false_eq_true, Int.reduceAdd, zup_a, zup_e, zup_j, z32_id, k_al0, k_gR, k_il1, k_ild, k_ildS, k_ildW, k_il2, k_ior, k_ic, k_ixor, k_iand, k_v4r, k_rz, zb0_some, zb1_some, e53_0, e53_1, e53_4, e53_5, e53_8, e53_9, e53_12, e53_15, e53_16, e53_17, e53_18, e53_19, e53_20, e53_23, e53_26, e53_27, e53_28, e53_29, e53_30, e53_31, e53_32, e53_35, s_carries, c2]
  · have c2 : ¬ sCar (zvS M 37) (zvG M 30) (zor (M 40 q) s) (zand (M 41 q) (zxor s (-1))) = true := c
    simp (disch := first | assumption | exact zrm0 | exact zrm1 _ | exact zrm2 _ _ | exact zrm3 _ _ _ | exact zrm4 _ _ _ _ | omega) only [m53, ↓k_dp, ↓k_dn, k_dp, k_dn, k_dT, k_dF, k_ip, k_in, if_true, if_false, ne_eq, not_true_eq_false, not_false_eq_true, Int.reduceAdd, zup_a, zup_e, zup_j, z32_id, k_al0, k_gR, k_il1, k_ild, k_ildS, k_ildW, k_il2, k_ior, k_ic, k_ixor, k_iand, k_v4r, k_rz, zb0_some, zb1_some, e53_0, e53_1, e53_4, e53_5, e53_8, e53_9, e53_12, e53_15, e53_16, e53_17, e53_18, e53_19, e53_20, e53_23, e53_26, e53_27, e53_28, e53_29, e53_30, e53_31, e53_32, e53_35, s_carries, c2, Bool.false_eq_true]
theorem c_win (d : Nat) (x0 q y : Int) (M : zM) (hG : okG (zvG M 30)) : (¬ (0 ≤ q ∧ q < M 30 8) → zEm true (d + 8) 22 [(29, 0, x0), (0, q, y)] M = some ((0, -1, 0), M)) ∧ ((0 ≤ q ∧ q < M 30 8) → zEm true (d + 8) 22 [(29, 0, x0), (0, q, y)] M = if sWin (zvS M 37) (zvG M 30) q = -1 then some ((0, -1, 0), M) else some ((0, kB 10 (sWin (zvS M 37) (zvG M 30) q), 0), zup M 51 1 (sWin (zvS M 37) (zvG M 30) q))) := by
  obtain ⟨⟨g6, g6'⟩, ⟨g1, g2⟩, ⟨g3, g4⟩, -⟩ := okG_M hG
  obtain ⟨p1, p2, p3⟩ := pw_ok g1 g2
  refine ⟨fun c => ?_, fun c => ?_⟩
  · simp (disch := first | assumption | exact zrm0 | exact zrm1 _ | exact zrm2 _ _ | exact zrm3 _ _ _ | exact zrm4 _ _ _ _ | omega) only [m22, ↓k_dp, ↓k_dn, k_dp, k_dn, k_dT, k_dF, k_ip, k_in, if_true, if_false, ne_eq, not_true_eq_false, not_false_eq_true, Int.reduceAdd, zup_a, zup_e, zup_j, z32_id, k_al0, k_il1, k_v2r, k_ifne, k_ic, k_ri, k_is2, k_is3, k_il3, k_gR, k_v1r, k_icgt, k_ild, k_ildS, k_ildW, k_iand, k_il2, k_s2r, k_ifeq, k_v3r, k_inc3, k_goto, k_icne, k_pI, k_s1r, zb0_some, zb1_some, e22_0, e22_1, e22_2, e22_5, e22_8, e22_9, e22_10, e22_11, e22_12, e22_13, e22_14, e22_15, e22_16, e22_19, e22_22, e22_25, e22_26, e22_27, e22_30, e22_33, e22_34, e22_35, e22_36, e22_39, e22_40, e22_41, e22_44, e22_47, e22_48, e22_49, e22_50, e22_53, e22_56, e22_57, e22_58, e22_61, e22_64, e22_65, e22_66, e22_69, e22_70, e22_71, e22_72, e22_75, e22_76, e22_79, e22_80, e22_83, c_isQuestion, if_neg c]
  have hl := zfor (ph := true) (d := d + 7) (j := 22) (pc := 14) (sWinF (zvS M 37) (zvG M 30) q) (fun s b => 0 ≤ s ∧ -1 ≤ b ∧ b < 1024) (fun s b => [(29, 0, x0), (0, q, y), (0, b, 0), (0, s, 0)]) (fun _ => M) (zshl 1 (M 30 7))
    (fun s b hk hp => by
      obtain ⟨s0, b0, b1⟩ := hp
      have s1 : s < 1024 := by omega
      have e3 : zvS M 37 3 q = M 40 q := zvS_3 c.1 (by omega)
      constructor
      · rw [e22_14]
        unfold sWinF
        by_cases c1 : zand s (zvS M 37 3 q) = 0
        · rw [if_pos c1]
          rw [e3] at c1
          by_cases c2 : sFewer s b = true
          · rw [if_pos c2]
            by_cases c3 : sCar (zvS M 37) (zvG M 30) (zor (zvS M 37 3 q) s) (zand (zvS M 37 4 q) (zxor s (-1))) = true
            · simp (disch := first | assumption | exact zrm0 | exact zrm1 _ | exact zrm2 _ _ | exact zrm3 _ _ _ | exact zrm4 _ _ _ _ | omega) only [m22, ↓k_dp, ↓k_dn, k_dp, k_dn, k_dT, k_dF, k_ip, k_in, if_true, if_false, ne_eq, not_true_eq_false, not_false_eq_true, Int.reduceAdd, zup_a, zup_e, zup_j, z32_id, k_al0, k_il1, k_v2r, k_ifne, k_ic, k_ri, k_is2, k_is3, k_il3, k_gR, k_v1r, k_icgt, k_ild, k_ildS, k_ildW, k_iand, k_il2, k_s2r, k_ifeq, k_v3r, k_inc3, k_goto, k_icne, k_pI, k_s1r, zb0_some, zb1_some, e22_0, e22_1, e22_2, e22_5, e22_8, e22_9, e22_10, e22_11, e22_12, e22_13, e22_15, e22_16, e22_19, e22_22, e22_25, e22_26, e22_27, e22_30, e22_33, e22_34, e22_35, e22_36, e22_39, e22_40, e22_41, e22_44, e22_47, e22_48, e22_49, e22_50, e22_53, e22_56, e22_57, e22_58, e22_61, e22_64, e22_65, e22_66, e22_69, e22_70, e22_71, e22_72, e22_75, e22_76, e22_79, e22_80, e22_83, s_allHands, p3, c1, c_isFewer, c2, c_carriesWith, c3]
            · simp (disch := first | assumption | exact zrm0 | exact zrm1 _ | exact zrm2 _ _ | exact zrm3 _ _ _ | exact zrm4 _ _ _ _ | omega) only [m22, ↓k_dp, ↓k_dn, k_dp, k_dn, k_dT, k_dF, k_ip, k_in, if_true, if_false, ne_eq, not_true_eq_false, not_false_eq_true, Int.reduceAdd, zup_a, zup_e, zup_j, z32_id, k_al0, k_il1, k_v2r, k_ifne, k_ic, k_ri, k_is2, k_is3, k_il3, k_gR, k_v1r, k_icgt, k_ild, k_ildS, k_ildW, k_iand, k_il2, k_s2r, k_ifeq, k_v3r, k_inc3, k_goto, k_icne, k_pI, k_s1r, zb0_some, zb1_some, e22_0, e22_1, e22_2, e22_5, e22_8, e22_9, e22_10, e22_11, e22_12, e22_13, e22_15, e22_16, e22_19, e22_22, e22_25, e22_26, e22_27, e22_30, e22_33, e22_34, e22_35, e22_36, e22_39, e22_40, e22_41, e22_44, e22_47, e22_48, e22_49, e22_50, e22_53, e22_56, e22_57, e22_58, e22_61, e22_64, e22_65, e22_66, e22_69, e22_70, e22_71, e22_72, e22_75, e22_76, e22_79, e22_80, e22_83, s_allHands, p3, c1, c_isFewer, c2, c_carriesWith, c3, Bool.false_eq_true]
          · rw [if_neg c2]
            simp (disch := first | assumption | exact zrm0 | exact zrm1 _ | exact zrm2 _ _ | exact zrm3 _ _ _ | exact zrm4 _ _ _ _ | omega) only [m22, ↓k_dp, ↓k_dn, k_dp, k_dn, k_dT, k_dF, k_ip, k_in, if_true, if_false, ne_eq, not_true_eq_false, not_false_eq_true, Int.reduceAdd, zup_a, zup_e, zup_j, z32_id, k_al0, k_il1, k_v2r, k_ifne, k_ic, k_ri, k_is2, k_is3, k_il3, k_gR, k_v1r, k_icgt, k_ild, k_ildS, k_ildW, k_iand, k_il2, k_s2r, k_ifeq, k_v3r, k_inc3, k_goto, k_icne, k_pI, k_s1r, zb0_some, zb1_some, e22_0, e22_1, e22_2, e22_5, e22_8, e22_9, e22_10, e22_11, e22_12, e22_13, e22_15, e22_16, e22_19, e22_22, e22_25, e22_26, e22_27, e22_30, e22_33, e22_34, e22_35, e22_36, e22_39, e22_40, e22_41, e22_44, e22_47, e22_48, e22_49, e22_50, e22_53, e22_56, e22_57, e22_58, e22_61, e22_64, e22_65, e22_66, e22_69, e22_70, e22_71, e22_72, e22_75, e22_76, e22_79, e22_80, e22_83, s_allHands, p3, c1, c_isFewer, c2, Bool.false_eq_true]
        · rw [if_neg c1]
          rw [e3] at c1
          simp (disch := first | assumption | exact zrm0 | exact zrm1 _ | exact zrm2 _ _ | exact zrm3 _ _ _ | exact zrm4 _ _ _ _ | omega) only [m22, ↓k_dp, ↓k_dn, k_dp, k_dn, k_dT, k_dF, k_ip, k_in, if_true, if_false, ne_eq, not_true_eq_false, not_false_eq_true, Int.reduceAdd, zup_a, zup_e, zup_j, z32_id, k_al0, k_il1, k_v2r, k_ifne, k_ic, k_ri, k_is2, k_is3, k_il3, k_gR, k_v1r, k_icgt, k_ild, k_ildS, k_ildW, k_iand, k_il2, k_s2r, k_ifeq, k_v3r, k_inc3, k_goto, k_icne, k_pI, k_s1r, zb0_some, zb1_some, e22_0, e22_1, e22_2, e22_5, e22_8, e22_9, e22_10, e22_11, e22_12, e22_13, e22_15, e22_16, e22_19, e22_22, e22_25, e22_26, e22_27, e22_30, e22_33, e22_34, e22_35, e22_36, e22_39, e22_40, e22_41, e22_44, e22_47, e22_48, e22_49, e22_50, e22_53, e22_56, e22_57, e22_58, e22_61, e22_64, e22_65, e22_66, e22_69, e22_70, e22_71, e22_72, e22_75, e22_76, e22_79, e22_80, e22_83, s_allHands, p3]
      · refine ⟨by omega, ?_⟩
        unfold sWinF
        split
        · split
          · split <;> omega
          · omega
        · omega) (zshl 1 (M 30 7)).toNat 0 (-1) (by omega) ⟨Int.le_refl _, by omega, by omega⟩
  have e7 : zvG M 30 0 7 = M 30 7 := zvG_0 (by omega) (by omega)
  obtain ⟨h1, -, h2, h3⟩ := hl
  simp (disch := first | assumption | exact zrm0 | exact zrm1 _ | exact zrm2 _ _ | exact zrm3 _ _ _ | exact zrm4 _ _ _ _ | omega) only [m22, ↓k_dp, ↓k_dn, k_dp, k_dn, k_dT, k_dF, k_ip, k_in, if_true, if_false, ne_eq, not_true_eq_false, not_false_eq_true, Int.reduceAdd, zup_a, zup_e, zup_j, z32_id, k_al0, k_il1, k_v2r, k_ifne, k_ic, k_ri, k_is2, k_is3, k_il3, k_gR, k_v1r, k_icgt, k_ild, k_ildS, k_ildW, k_iand, k_il2, k_s2r, k_ifeq, k_v3r, k_inc3, k_goto, k_icne, k_pI, k_s1r, zb0_some, zb1_some, e22_0, e22_1, e22_2, e22_5, e22_8, e22_9, e22_10, e22_11, e22_12, e22_13, e22_15, e22_16, e22_19, e22_22, e22_25, e22_26, e22_27, e22_30, e22_33, e22_34, e22_35, e22_36, e22_39, e22_40, e22_41, e22_44, e22_47, e22_48, e22_49, e22_50, e22_53, e22_56, e22_57, e22_58, e22_61, e22_64, e22_65, e22_66, e22_69, e22_70, e22_71, e22_72, e22_75, e22_76, e22_79, e22_80, e22_83, c_isQuestion, if_pos c]
  rw [h1]
  unfold sWin
  rw [e7]
  generalize zit (sWinF (zvS M 37) (zvG M 30) q) _ _ _ = b at h2 h3
  by_cases cb : b = -1
  · simp (disch := first | assumption | exact zrm0 | exact zrm1 _ | exact zrm2 _ _ | exact zrm3 _ _ _ | exact zrm4 _ _ _ _ | omega) only [m22, ↓k_dp, ↓k_dn, k_dp, k_dn, k_dT, k_dF, k_ip, k_in, if_true, if_false, ne_eq, not_true_eq_false, not_false_eq_true, Int.reduceAdd, zup_a, zup_e, zup_j, z32_id, k_al0, k_il1, k_v2r, k_ifne, k_ic, k_ri, k_is2, k_is3, k_il3, k_gR, k_v1r, k_icgt, k_ild, k_ildS, k_ildW, k_iand, k_il2, k_s2r, k_ifeq, k_v3r, k_inc3, k_goto, k_icne, k_pI, k_s1r, zb0_some, zb1_some, e22_0, e22_1, e22_2, e22_5, e22_8, e22_9, e22_10, e22_11, e22_12, e22_13, e22_14, e22_15, e22_16, e22_19, e22_22, e22_25, e22_26, e22_27, e22_30, e22_33, e22_34, e22_35, e22_36, e22_39, e22_40, e22_41, e22_44, e22_47, e22_48, e22_49, e22_50, e22_53, e22_56, e22_57, e22_58, e22_61, e22_64, e22_65, e22_66, e22_69, e22_70, e22_71, e22_72, e22_75, e22_76, e22_79, e22_80, e22_83, s_allHands, p3]
  · simp (disch := first | assumption | exact zrm0 | exact zrm1 _ | exact zrm2 _ _ | exact zrm3 _ _ _ | exact zrm4 _ _ _ _ | omega) only [m22, ↓k_dp, ↓k_dn, k_dp, k_dn, k_dT, k_dF, k_ip, k_in, if_true, if_false, ne_eq, not_true_eq_false, not_false_eq_true, Int.reduceAdd, zup_a, zup_e, zup_j, z32_id, k_al0, k_il1, k_v2r, k_ifne, k_ic, k_ri, k_is2, k_is3, k_il3, k_gR, k_v1r, k_icgt, k_ild, k_ildS, k_ildW, k_iand, k_il2, k_s2r, k_ifeq, k_v3r, k_inc3, k_goto, k_icne, k_pI, k_s1r, zb0_some, zb1_some, e22_0, e22_1, e22_2, e22_5, e22_8, e22_9, e22_10, e22_11, e22_12, e22_13, e22_14, e22_15, e22_16, e22_19, e22_22, e22_25, e22_26, e22_27, e22_30, e22_33, e22_34, e22_35, e22_36, e22_39, e22_40, e22_41, e22_44, e22_47, e22_48, e22_49, e22_50, e22_53, e22_56, e22_57, e22_58, e22_61, e22_64, e22_65, e22_66, e22_69, e22_70, e22_71, e22_72, e22_75, e22_76, e22_79, e22_80, e22_83, s_allHands, p3, s_bitCount]
