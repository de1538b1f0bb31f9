/-! days by draws in the class -/
theorem zput_uo {M T : zM} {a x y v : Int} (h : x < a ∨ a + 9 ≤ x) : zup (zput M a T) x y v = zput (zup M x y v) a T := by
  funext b c
  unfold zput zup
  dsimp only
  by_cases hd : sdom (b - a) c
  · rw [zif_t hd, zif_t hd, if_neg]
    rintro ⟨rfl, rfl, -⟩
    unfold sdom at hd
    omega
  · rw [zif_f hd, zif_f hd]
theorem m60 (ph : Bool) (d : Nat) (a x0 p0 y0 : Int) (M : zM) : zEm ph (d + 1) 60 [(29, a, x0), (0, p0, y0)] M = zEv ph d 60 0 [(29, a, x0), (0, p0, y0)] [] M := rfl
theorem e60_0 (ph : Bool) (d : Nat) (L st : List zV) (M : zM) : zEv ph d 60 0 L st M = zcont ph d 60 (zstep ph (zEm ph d) 4 1 0 [0] L st M) := zEv_step rfl
theorem e60_1 (ph : Bool) (d : Nat) (L st : List zV) (M : zM) : zEv ph d 60 1 L st M = zcont ph d 60 (zstep ph (zEm ph d) 4 2 0 [0] L st M) := zEv_step rfl
theorem e60_2 (ph : Bool) (d : Nat) (L st : List zV) (M : zM) : zEv ph d 60 2 L st M = zcont ph d 60 (zstep ph (zEm ph d) 60 5 0 [29, 14] L st M) := zEv_step rfl
theorem e60_5 (ph : Bool) (d : Nat) (L st : List zV) (M : zM) : zEv ph d 60 5 L st M = zcont ph d 60 (zstep ph (zEm ph d) 0 8 0 [1103515245] L st M) := zEv_step rfl
theorem e60_8 (ph : Bool) (d : Nat) (L st : List zV) (M : zM) : zEv ph d 60 8 L st M = zcont ph d 60 (zstep ph (zEm ph d) 12 9 0 [] L st M) := zEv_step rfl
theorem e60_9 (ph : Bool) (d : Nat) (L st : List zV) (M : zM) : zEv ph d 60 9 L st M = zcont ph d 60 (zstep ph (zEm ph d) 0 12 0 [12345] L st M) := zEv_step rfl
theorem e60_12 (ph : Bool) (d : Nat) (L st : List zV) (M : zM) : zEv ph d 60 12 L st M = zcont ph d 60 (zstep ph (zEm ph d) 10 13 0 [] L st M) := zEv_step rfl
theorem e60_13 (ph : Bool) (d : Nat) (L st : List zV) (M : zM) : zEv ph d 60 13 L st M = zcont ph d 60 (zstep ph (zEm ph d) 65 16 0 [29, 14] L st M) := zEv_step rfl
theorem e60_16 (ph : Bool) (d : Nat) (L st : List zV) (M : zM) : zEv ph d 60 16 L st M = zcont ph d 60 (zstep ph (zEm ph d) 2 17 0 [1] L st M) := zEv_step rfl
theorem e60_17 (ph : Bool) (d : Nat) (L st : List zV) (M : zM) : zEv ph d 60 17 L st M = zcont ph d 60 (zstep ph (zEm ph d) 45 20 32 [] L st M) := zEv_step rfl
theorem e60_20 (ph : Bool) (d : Nat) (L st : List zV) (M : zM) : zEv ph d 60 20 L st M = zcont ph d 60 (zstep ph (zEm ph d) 4 21 0 [0] L st M) := zEv_step rfl
theorem e60_21 (ph : Bool) (d : Nat) (L st : List zV) (M : zM) : zEv ph d 60 21 L st M = zcont ph d 60 (zstep ph (zEm ph d) 60 24 0 [29, 14] L st M) := zEv_step rfl
theorem e60_24 (ph : Bool) (d : Nat) (L st : List zV) (M : zM) : zEv ph d 60 24 L st M = zcont ph d 60 (zstep ph (zEm ph d) 0 26 0 [8] L st M) := zEv_step rfl
theorem e60_26 (ph : Bool) (d : Nat) (L st : List zV) (M : zM) : zEv ph d 60 26 L st M = zcont ph d 60 (zstep ph (zEm ph d) 21 27 0 [] L st M) := zEv_step rfl
theorem e60_27 (ph : Bool) (d : Nat) (L st : List zV) (M : zM) : zEv ph d 60 27 L st M = zcont ph d 60 (zstep ph (zEm ph d) 2 28 0 [1] L st M) := zEv_step rfl
theorem e60_28 (ph : Bool) (d : Nat) (L st : List zV) (M : zM) : zEv ph d 60 28 L st M = zcont ph d 60 (zstep ph (zEm ph d) 14 29 0 [] L st M) := zEv_step rfl
theorem e60_29 (ph : Bool) (d : Nat) (L st : List zV) (M : zM) : zEv ph d 60 29 L st M = zcont ph d 60 (zstep ph (zEm ph d) 52 32 33 [] L st M) := zEv_step rfl
theorem e60_32 (ph : Bool) (d : Nat) (L st : List zV) (M : zM) : zEv ph d 60 32 L st M = zcont ph d 60 (zstep ph (zEm ph d) 0 33 0 [0] L st M) := zEv_step rfl
theorem e60_33 (ph : Bool) (d : Nat) (L st : List zV) (M : zM) : zEv ph d 60 33 L st M = zcont ph d 60 (zstep ph (zEm ph d) 80 34 0 [] L st M) := zEv_step rfl
theorem m62 (ph : Bool) (d : Nat) (a x0 p0 y0 p1 y1 : Int) (M : zM) : zEm ph (d + 1) 62 [(29, a, x0), (26, p0, y0), (0, p1, y1)] M = zEv ph d 62 0 [(29, a, x0), (26, p0, y0), (0, p1, y1), (3, 0, 0)] [] M := rfl
theorem e62_0 (ph : Bool) (d : Nat) (L st : List zV) (M : zM) : zEv ph d 62 0 L st M = zcont ph d 62 (zstep ph (zEm ph d) 4 1 0 [0] L st M) := zEv_step rfl
theorem e62_1 (ph : Bool) (d : Nat) (L st : List zV) (M : zM) : zEv ph d 62 1 L st M = zcont ph d 62 (zstep ph (zEm ph d) 0 3 0 [10] L st M) := zEv_step rfl
theorem e62_3 (ph : Bool) (d : Nat) (L st : List zV) (M : zM) : zEv ph d 62 3 L st M = zcont ph d 62 (zstep ph (zEm ph d) 70 6 60 [2, 1, 29] L st M) := zEv_step rfl
theorem e62_6 (ph : Bool) (d : Nat) (L st : List zV) (M : zM) : zEv ph d 62 6 L st M = zcont ph d 62 (zstep ph (zEm ph d) 5 7 0 [3] L st M) := zEv_step rfl
theorem e62_7 (ph : Bool) (d : Nat) (L st : List zV) (M : zM) : zEv ph d 62 7 L st M = zcont ph d 62 (zstep ph (zEm ph d) 2 8 0 [3] L st M) := zEv_step rfl
theorem e62_8 (ph : Bool) (d : Nat) (L st : List zV) (M : zM) : zEv ph d 62 8 L st M = zcont ph d 62 (zstep ph (zEm ph d) 41 11 26 [] L st M) := zEv_step rfl
theorem e62_11 (ph : Bool) (d : Nat) (L st : List zV) (M : zM) : zEv ph d 62 11 L st M = zcont ph d 62 (zstep ph (zEm ph d) 4 12 0 [1] L st M) := zEv_step rfl
theorem e62_12 (ph : Bool) (d : Nat) (L st : List zV) (M : zM) : zEv ph d 62 12 L st M = zcont ph d 62 (zstep ph (zEm ph d) 36 13 0 [] L st M) := zEv_step rfl
theorem e62_13 (ph : Bool) (d : Nat) (L st : List zV) (M : zM) : zEv ph d 62 13 L st M = zcont ph d 62 (zstep ph (zEm ph d) 60 16 0 [26, 8] L st M) := zEv_step rfl
theorem e62_16 (ph : Bool) (d : Nat) (L st : List zV) (M : zM) : zEv ph d 62 16 L st M = zcont ph d 62 (zstep ph (zEm ph d) 0 17 0 [1] L st M) := zEv_step rfl
theorem e62_17 (ph : Bool) (d : Nat) (L st : List zV) (M : zM) : zEv ph d 62 17 L st M = zcont ph d 62 (zstep ph (zEm ph d) 2 18 0 [2] L st M) := zEv_step rfl
theorem e62_18 (ph : Bool) (d : Nat) (L st : List zV) (M : zM) : zEv ph d 62 18 L st M = zcont ph d 62 (zstep ph (zEm ph d) 19 19 0 [] L st M) := zEv_step rfl
theorem e62_19 (ph : Bool) (d : Nat) (L st : List zV) (M : zM) : zEv ph d 62 19 L st M = zcont ph d 62 (zstep ph (zEm ph d) 18 20 0 [] L st M) := zEv_step rfl
theorem e62_20 (ph : Bool) (d : Nat) (L st : List zV) (M : zM) : zEv ph d 62 20 L st M = zcont ph d 62 (zstep ph (zEm ph d) 65 23 0 [26, 8] L st M) := zEv_step rfl
theorem e62_23 (ph : Bool) (d : Nat) (L st : List zV) (M : zM) : zEv ph d 62 23 L st M = zcont ph d 62 (zstep ph (zEm ph d) 52 26 42 [] L st M) := zEv_step rfl
theorem e62_26 (ph : Bool) (d : Nat) (L st : List zV) (M : zM) : zEv ph d 62 26 L st M = zcont ph d 62 (zstep ph (zEm ph d) 2 27 0 [3] L st M) := zEv_step rfl
theorem e62_27 (ph : Bool) (d : Nat) (L st : List zV) (M : zM) : zEv ph d 62 27 L st M = zcont ph d 62 (zstep ph (zEm ph d) 0 28 0 [1] L st M) := zEv_step rfl
theorem e62_28 (ph : Bool) (d : Nat) (L st : List zV) (M : zM) : zEv ph d 62 28 L st M = zcont ph d 62 (zstep ph (zEm ph d) 47 31 42 [] L st M) := zEv_step rfl
theorem e62_31 (ph : Bool) (d : Nat) (L st : List zV) (M : zM) : zEv ph d 62 31 L st M = zcont ph d 62 (zstep ph (zEm ph d) 4 32 0 [1] L st M) := zEv_step rfl
theorem e62_32 (ph : Bool) (d : Nat) (L st : List zV) (M : zM) : zEv ph d 62 32 L st M = zcont ph d 62 (zstep ph (zEm ph d) 4 33 0 [0] L st M) := zEv_step rfl
theorem e62_33 (ph : Bool) (d : Nat) (L st : List zV) (M : zM) : zEv ph d 62 33 L st M = zcont ph d 62 (zstep ph (zEm ph d) 62 36 0 [29, 2, 30, 28, 0] L st M) := zEv_step rfl
theorem e62_36 (ph : Bool) (d : Nat) (L st : List zV) (M : zM) : zEv ph d 62 36 L st M = zcont ph d 62 (zstep ph (zEm ph d) 2 37 0 [2] L st M) := zEv_step rfl
theorem e62_37 (ph : Bool) (d : Nat) (L st : List zV) (M : zM) : zEv ph d 62 37 L st M = zcont ph d 62 (zstep ph (zEm ph d) 0 38 0 [1] L st M) := zEv_step rfl
theorem e62_38 (ph : Bool) (d : Nat) (L st : List zV) (M : zM) : zEv ph d 62 38 L st M = zcont ph d 62 (zstep ph (zEm ph d) 70 41 124 [4, 1, 26] L st M) := zEv_step rfl
theorem e62_41 (ph : Bool) (d : Nat) (L st : List zV) (M : zM) : zEv ph d 62 41 L st M = zcont ph d 62 (zstep ph (zEm ph d) 38 42 0 [] L st M) := zEv_step rfl
theorem e62_42 (ph : Bool) (d : Nat) (L st : List zV) (M : zM) : zEv ph d 62 42 L st M = zcont ph d 62 (zstep ph (zEm ph d) 83 43 0 [] L st M) := zEv_step rfl
theorem m61 (ph : Bool) (d : Nat) (a x0 p0 y0 p1 y1 p2 y2 : Int) (M : zM) : zEm ph (d + 1) 61 [(29, a, x0), (26, p0, y0), (0, p1, y1), (0, p2, y2)] M = zEv ph d 61 0 [(29, a, x0), (26, p0, y0), (0, p1, y1), (0, p2, y2), (3, 0, 0), (3, 0, 0)] [] M := rfl
theorem e61_0 (ph : Bool) (d : Nat) (L st : List zV) (M : zM) : zEv ph d 61 0 L st M = zcont ph d 61 (zstep ph (zEm ph d) 4 1 0 [0] L st M) := zEv_step rfl
theorem e61_1 (ph : Bool) (d : Nat) (L st : List zV) (M : zM) : zEv ph d 61 1 L st M = zcont ph d 61 (zstep ph (zEm ph d) 2 2 0 [3] L st M) := zEv_step rfl
theorem e61_2 (ph : Bool) (d : Nat) (L st : List zV) (M : zM) : zEv ph d 61 2 L st M = zcont ph d 61 (zstep ph (zEm ph d) 65 5 0 [29, 14] L st M) := zEv_step rfl
theorem e61_5 (ph : Bool) (d : Nat) (L st : List zV) (M : zM) : zEv ph d 61 5 L st M = zcont ph d 61 (zstep ph (zEm ph d) 0 6 0 [0] L st M) := zEv_step rfl
theorem e61_6 (ph : Bool) (d : Nat) (L st : List zV) (M : zM) : zEv ph d 61 6 L st M = zcont ph d 61 (zstep ph (zEm ph d) 5 8 0 [4] L st M) := zEv_step rfl
theorem e61_8 (ph : Bool) (d : Nat) (L st : List zV) (M : zM) : zEv ph d 61 8 L st M = zcont ph d 61 (zstep ph (zEm ph d) 2 10 0 [4] L st M) := zEv_step rfl
theorem e61_10 (ph : Bool) (d : Nat) (L st : List zV) (M : zM) : zEv ph d 61 10 L st M = zcont ph d 61 (zstep ph (zEm ph d) 2 11 0 [2] L st M) := zEv_step rfl
theorem e61_11 (ph : Bool) (d : Nat) (L st : List zV) (M : zM) : zEv ph d 61 11 L st M = zcont ph d 61 (zstep ph (zEm ph d) 49 14 106 [] L st M) := zEv_step rfl
theorem e61_14 (ph : Bool) (d : Nat) (L st : List zV) (M : zM) : zEv ph d 61 14 L st M = zcont ph d 61 (zstep ph (zEm ph d) 4 15 0 [1] L st M) := zEv_step rfl
theorem e61_15 (ph : Bool) (d : Nat) (L st : List zV) (M : zM) : zEv ph d 61 15 L st M = zcont ph d 61 (zstep ph (zEm ph d) 60 18 0 [26, 10] L st M) := zEv_step rfl
theorem e61_18 (ph : Bool) (d : Nat) (L st : List zV) (M : zM) : zEv ph d 61 18 L st M = zcont ph d 61 (zstep ph (zEm ph d) 0 21 0 [400] L st M) := zEv_step rfl
theorem e61_21 (ph : Bool) (d : Nat) (L st : List zV) (M : zM) : zEv ph d 61 21 L st M = zcont ph d 61 (zstep ph (zEm ph d) 49 24 106 [] L st M) := zEv_step rfl
theorem e61_24 (ph : Bool) (d : Nat) (L st : List zV) (M : zM) : zEv ph d 61 24 L st M = zcont ph d 61 (zstep ph (zEm ph d) 4 25 0 [1] L st M) := zEv_step rfl
theorem e61_25 (ph : Bool) (d : Nat) (L st : List zV) (M : zM) : zEv ph d 61 25 L st M = zcont ph d 61 (zstep ph (zEm ph d) 4 26 0 [0] L st M) := zEv_step rfl
theorem e61_26 (ph : Bool) (d : Nat) (L st : List zV) (M : zM) : zEv ph d 61 26 L st M = zcont ph d 61 (zstep ph (zEm ph d) 0 27 0 [3] L st M) := zEv_step rfl
theorem e61_27 (ph : Bool) (d : Nat) (L st : List zV) (M : zM) : zEv ph d 61 27 L st M = zcont ph d 61 (zstep ph (zEm ph d) 70 30 60 [2, 1, 29] L st M) := zEv_step rfl
theorem e61_30 (ph : Bool) (d : Nat) (L st : List zV) (M : zM) : zEv ph d 61 30 L st M = zcont ph d 61 (zstep ph (zEm ph d) 65 33 0 [26, 9] L st M) := zEv_step rfl
theorem e61_33 (ph : Bool) (d : Nat) (L st : List zV) (M : zM) : zEv ph d 61 33 L st M = zcont ph d 61 (zstep ph (zEm ph d) 0 34 0 [0] L st M) := zEv_step rfl
theorem e61_34 (ph : Bool) (d : Nat) (L st : List zV) (M : zM) : zEv ph d 61 34 L st M = zcont ph d 61 (zstep ph (zEm ph d) 5 36 0 [5] L st M) := zEv_step rfl
theorem e61_36 (ph : Bool) (d : Nat) (L st : List zV) (M : zM) : zEv ph d 61 36 L st M = zcont ph d 61 (zstep ph (zEm ph d) 2 38 0 [5] L st M) := zEv_step rfl
theorem e61_38 (ph : Bool) (d : Nat) (L st : List zV) (M : zM) : zEv ph d 61 38 L st M = zcont ph d 61 (zstep ph (zEm ph d) 4 39 0 [0] L st M) := zEv_step rfl
theorem e61_39 (ph : Bool) (d : Nat) (L st : List zV) (M : zM) : zEv ph d 61 39 L st M = zcont ph d 61 (zstep ph (zEm ph d) 62 42 0 [29, 2, 30, 28, 0] L st M) := zEv_step rfl
theorem e61_42 (ph : Bool) (d : Nat) (L st : List zV) (M : zM) : zEv ph d 61 42 L st M = zcont ph d 61 (zstep ph (zEm ph d) 60 45 0 [28, 7] L st M) := zEv_step rfl
theorem e61_45 (ph : Bool) (d : Nat) (L st : List zV) (M : zM) : zEv ph d 61 45 L st M = zcont ph d 61 (zstep ph (zEm ph d) 49 48 61 [] L st M) := zEv_step rfl
theorem e61_48 (ph : Bool) (d : Nat) (L st : List zV) (M : zM) : zEv ph d 61 48 L st M = zcont ph d 61 (zstep ph (zEm ph d) 4 49 0 [0] L st M) := zEv_step rfl
theorem e61_49 (ph : Bool) (d : Nat) (L st : List zV) (M : zM) : zEv ph d 61 49 L st M = zcont ph d 61 (zstep ph (zEm ph d) 4 50 0 [1] L st M) := zEv_step rfl
theorem e61_50 (ph : Bool) (d : Nat) (L st : List zV) (M : zM) : zEv ph d 61 50 L st M = zcont ph d 61 (zstep ph (zEm ph d) 2 52 0 [5] L st M) := zEv_step rfl
theorem e61_52 (ph : Bool) (d : Nat) (L st : List zV) (M : zM) : zEv ph d 61 52 L st M = zcont ph d 61 (zstep ph (zEm ph d) 70 55 62 [3, 0, 29] L st M) := zEv_step rfl
theorem e61_55 (ph : Bool) (d : Nat) (L st : List zV) (M : zM) : zEv ph d 61 55 L st M = zcont ph d 61 (zstep ph (zEm ph d) 8 58 0 [5, 1] L st M) := zEv_step rfl
theorem e61_58 (ph : Bool) (d : Nat) (L st : List zV) (M : zM) : zEv ph d 61 58 L st M = zcont ph d 61 (zstep ph (zEm ph d) 52 61 36 [] L st M) := zEv_step rfl
theorem e61_61 (ph : Bool) (d : Nat) (L st : List zV) (M : zM) : zEv ph d 61 61 L st M = zcont ph d 61 (zstep ph (zEm ph d) 4 62 0 [0] L st M) := zEv_step rfl
theorem e61_62 (ph : Bool) (d : Nat) (L st : List zV) (M : zM) : zEv ph d 61 62 L st M = zcont ph d 61 (zstep ph (zEm ph d) 62 65 0 [29, 2, 30, 28, 0] L st M) := zEv_step rfl
theorem e61_65 (ph : Bool) (d : Nat) (L st : List zV) (M : zM) : zEv ph d 61 65 L st M = zcont ph d 61 (zstep ph (zEm ph d) 60 68 0 [28, 8] L st M) := zEv_step rfl
theorem e61_68 (ph : Bool) (d : Nat) (L st : List zV) (M : zM) : zEv ph d 61 68 L st M = zcont ph d 61 (zstep ph (zEm ph d) 45 71 91 [] L st M) := zEv_step rfl
theorem e61_71 (ph : Bool) (d : Nat) (L st : List zV) (M : zM) : zEv ph d 61 71 L st M = zcont ph d 61 (zstep ph (zEm ph d) 4 72 0 [1] L st M) := zEv_step rfl
theorem e61_72 (ph : Bool) (d : Nat) (L st : List zV) (M : zM) : zEv ph d 61 72 L st M = zcont ph d 61 (zstep ph (zEm ph d) 4 73 0 [0] L st M) := zEv_step rfl
theorem e61_73 (ph : Bool) (d : Nat) (L st : List zV) (M : zM) : zEv ph d 61 73 L st M = zcont ph d 61 (zstep ph (zEm ph d) 62 76 0 [29, 2, 30, 28, 0] L st M) := zEv_step rfl
theorem e61_76 (ph : Bool) (d : Nat) (L st : List zV) (M : zM) : zEv ph d 61 76 L st M = zcont ph d 61 (zstep ph (zEm ph d) 4 77 0 [0] L st M) := zEv_step rfl
theorem e61_77 (ph : Bool) (d : Nat) (L st : List zV) (M : zM) : zEv ph d 61 77 L st M = zcont ph d 61 (zstep ph (zEm ph d) 4 78 0 [0] L st M) := zEv_step rfl
theorem e61_78 (ph : Bool) (d : Nat) (L st : List zV) (M : zM) : zEv ph d 61 78 L st M = zcont ph d 61 (zstep ph (zEm ph d) 62 81 0 [29, 2, 30, 28, 0] L st M) := zEv_step rfl
theorem e61_81 (ph : Bool) (d : Nat) (L st : List zV) (M : zM) : zEv ph d 61 81 L st M = zcont ph d 61 (zstep ph (zEm ph d) 60 84 0 [28, 8] L st M) := zEv_step rfl
theorem e61_84 (ph : Bool) (d : Nat) (L st : List zV) (M : zM) : zEv ph d 61 84 L st M = zcont ph d 61 (zstep ph (zEm ph d) 70 87 60 [2, 1, 29] L st M) := zEv_step rfl
theorem e61_87 (ph : Bool) (d : Nat) (L st : List zV) (M : zM) : zEv ph d 61 87 L st M = zcont ph d 61 (zstep ph (zEm ph d) 70 90 129 [3, 1, 26] L st M) := zEv_step rfl
theorem e61_90 (ph : Bool) (d : Nat) (L st : List zV) (M : zM) : zEv ph d 61 90 L st M = zcont ph d 61 (zstep ph (zEm ph d) 38 91 0 [] L st M) := zEv_step rfl
theorem e61_91 (ph : Bool) (d : Nat) (L st : List zV) (M : zM) : zEv ph d 61 91 L st M = zcont ph d 61 (zstep ph (zEm ph d) 4 92 0 [1] L st M) := zEv_step rfl
theorem e61_92 (ph : Bool) (d : Nat) (L st : List zV) (M : zM) : zEv ph d 61 92 L st M = zcont ph d 61 (zstep ph (zEm ph d) 4 93 0 [0] L st M) := zEv_step rfl
theorem e61_93 (ph : Bool) (d : Nat) (L st : List zV) (M : zM) : zEv ph d 61 93 L st M = zcont ph d 61 (zstep ph (zEm ph d) 62 96 0 [29, 2, 30, 28, 0] L st M) := zEv_step rfl
theorem e61_96 (ph : Bool) (d : Nat) (L st : List zV) (M : zM) : zEv ph d 61 96 L st M = zcont ph d 61 (zstep ph (zEm ph d) 70 99 133 [2, 1, 26] L st M) := zEv_step rfl
theorem e61_99 (ph : Bool) (d : Nat) (L st : List zV) (M : zM) : zEv ph d 61 99 L st M = zcont ph d 61 (zstep ph (zEm ph d) 38 100 0 [] L st M) := zEv_step rfl
theorem e61_100 (ph : Bool) (d : Nat) (L st : List zV) (M : zM) : zEv ph d 61 100 L st M = zcont ph d 61 (zstep ph (zEm ph d) 8 103 0 [4, 1] L st M) := zEv_step rfl
theorem e61_103 (ph : Bool) (d : Nat) (L st : List zV) (M : zM) : zEv ph d 61 103 L st M = zcont ph d 61 (zstep ph (zEm ph d) 52 106 8 [] L st M) := zEv_step rfl
theorem e61_106 (ph : Bool) (d : Nat) (L st : List zV) (M : zM) : zEv ph d 61 106 L st M = zcont ph d 61 (zstep ph (zEm ph d) 2 108 0 [4] L st M) := zEv_step rfl
theorem e61_108 (ph : Bool) (d : Nat) (L st : List zV) (M : zM) : zEv ph d 61 108 L st M = zcont ph d 61 (zstep ph (zEm ph d) 80 109 0 [] L st M) := zEv_step rfl
theorem c_draw (d : Nat) (x0 n y : Int) (M : zM) (n0 : 0 < n) : zEm true (d + 1) 60 [(29, 0, x0), (0, n, y)] M = some ((0, dVal (dNext (M 0 14)) n, 0), zup M 0 14 (dNext (M 0 14))) := by
  unfold dVal dNext
  simp (disch := first | assumption | exact zrm0 | exact zrm1 _ | exact zrm2 _ _ | exact zrm3 _ _ _ | exact zrm4 _ _ _ _ | omega) only [m60, ↓k_dp, ↓k_dn, k_dp, k_dn, k_dT, k_dF, k_ip, k_in, if_true, if_false, ne_eq, not_true_eq_false, not_false_eq_true, Int.reduceAdd, zup_a, zup_e, zup_j, z32_id, k_al0, k_gI, k_ic, k_imul, k_iadd, k_pI, k_il1, k_ifle, k_iushr, k_irem, k_goto, k_ri, e60_0, e60_1, e60_2, e60_5, e60_8, e60_9, e60_12, e60_13, e60_16, e60_17, e60_20, e60_21, e60_24, e60_26, e60_27, e60_28, e60_29, e60_32, e60_33]
theorem c_drawHand (d : Nat) (x0 a x1 h y sd : Int) (M T : zM) (hT : zt T = T) (ha : 9 ≤ a) (sep : 30 + 7 ≤ a) (hd : M 0 14 = sd) (h0 : 0 ≤ h) (h1 : h < 10) : zEm true (d + 2) 62 [(29, 0, x0), (26, a, x1), (0, h, y)] (zput M a T) = some ((98, 0, 0), zput (zup M 0 14 (dHand (zvG M 30) h (T, sd)).2) a (dHand (zvG M 30) h (T, sd)).1) := by
  have e14 : zput M a T 0 14 = sd := by rw [zput_o (by omega)]; exact hd
  have eG : zvG (zup M 0 14 (dNext sd)) 30 = zvG M 30 := zvG_out (by omega)
  unfold dHand
  dsimp only
  by_cases c1 : dVal (dNext sd) 10 = 0
  · rw [if_pos c1]
    simp (disch := first | assumption | exact zrm0 | exact zrm1 _ | exact zrm2 _ _ | exact zrm3 _ _ _ | exact zrm4 _ _ _ _ | omega) only [m62, ↓k_dp, ↓k_dn, k_dp, k_dn, k_dT, k_dF, k_ip, k_in, if_true, if_false, ne_eq, not_true_eq_false, not_false_eq_true, Int.reduceAdd, zup_a, zup_e, zup_j, z32_id, k_al0, k_ic, k_v2r, k_is3, k_il3, k_ifne, k_al1, k_dup, k_gI, k_il2, k_ishl, k_ixor, k_pI, k_goto, k_icne, k_gR, k_v4r, k_pop, k_rv, zb0_some, zb1_some, e62_0, e62_1, e62_3, e62_6, e62_7, e62_8, e62_11, e62_12, e62_13, e62_16, e62_17, e62_18, e62_19, e62_20, e62_23, e62_26, e62_27, e62_28, e62_31, e62_32, e62_33, e62_36, e62_37, e62_38, e62_41, e62_42, c_draw, e14, zput_uo, c1, zput_0, zput_u0]
  · rw [if_neg c1]
    by_cases c2 : dVal (dNext sd) 10 = 1
    · rw [if_pos c2]
      by_cases c3 : sWhyBuy T (zvG M 30) h 1 = 0
      · rw [if_pos c3]
        simp (disch := first | assumption | exact zrm0 | exact zrm1 _ | exact zrm2 _ _ | exact zrm3 _ _ _ | exact zrm4 _ _ _ _ | omega) only [m62, ↓k_dp, ↓k_dn, k_dp, k_dn, k_dT, k_dF, k_ip, k_in, if_true, if_false, ne_eq, not_true_eq_false, not_false_eq_true, Int.reduceAdd, zup_a, zup_e, zup_j, z32_id, k_al0, k_ic, k_v2r, k_is3, k_il3, k_ifne, k_al1, k_dup, k_gI, k_il2, k_ishl, k_ixor, k_pI, k_goto, k_icne, k_gR, k_v4r, k_pop, k_rv, zb0_some, zb1_some, e62_0, e62_1, e62_3, e62_6, e62_7, e62_8, e62_11, e62_12, e62_13, e62_16, e62_17, e62_18, e62_19, e62_20, e62_23, e62_26, e62_27, e62_28, e62_31, e62_32, e62_33, e62_36, e62_37, e62_38, e62_41, e62_42, c_draw, e14, zput_uo, c2, s_buyIrons, zvS_put, zvG_puto, hT, eG, c3, zput_put]
      · rw [if_neg c3]
        simp (disch := first | assumption | exact zrm0 | exact zrm1 _ | exact zrm2 _ _ | exact zrm3 _ _ _ | exact zrm4 _ _ _ _ | omega) only [m62, ↓k_dp, ↓k_dn, k_dp, k_dn, k_dT, k_dF, k_ip, k_in, if_true, if_false, ne_eq, not_true_eq_false, not_false_eq_true, Int.reduceAdd, zup_a, zup_e, zup_j, z32_id, k_al0, k_ic, k_v2r, k_is3, k_il3, k_ifne, k_al1, k_dup, k_gI, k_il2, k_ishl, k_ixor, k_pI, k_goto, k_icne, k_gR, k_v4r, k_pop, k_rv, zb0_some, zb1_some, e62_0, e62_1, e62_3, e62_6, e62_7, e62_8, e62_11, e62_12, e62_13, e62_16, e62_17, e62_18, e62_19, e62_20, e62_23, e62_26, e62_27, e62_28, e62_31, e62_32, e62_33, e62_36, e62_37, e62_38, e62_41, e62_42, c_draw, e14, zput_uo, c2, s_buyIrons, zvS_put, zvG_puto, hT, eG, if_neg c3, zput_put]
    · rw [if_neg c2]
      simp (disch := first | assumption | exact zrm0 | exact zrm1 _ | exact zrm2 _ _ | exact zrm3 _ _ _ | exact zrm4 _ _ _ _ | omega) only [m62, ↓k_dp, ↓k_dn, k_dp, k_dn, k_dT, k_dF, k_ip, k_in, if_true, if_false, ne_eq, not_true_eq_false, not_false_eq_true, Int.reduceAdd, zup_a, zup_e, zup_j, z32_id, k_al0, k_ic, k_v2r, k_is3, k_il3, k_ifne, k_al1, k_dup, k_gI, k_il2, k_ishl, k_ixor, k_pI, k_goto, k_icne, k_gR, k_v4r, k_pop, k_rv, zb0_some, zb1_some, e62_0, e62_1, e62_3, e62_6, e62_7, e62_8, e62_11, e62_12, e62_13, e62_16, e62_17, e62_18, e62_19, e62_20, e62_23, e62_26, e62_27, e62_28, e62_31, e62_32, e62_33, e62_36, e62_37, e62_38, e62_41, e62_42, c_draw, e14, zput_uo]
theorem c_drawHands (d : Nat) (x0 a x1 n y sd0 y2 g0 : Int) (M T : zM) (sd : Int) (hT : okD T (zvG M 30)) (ha : 9 ≤ a) (sep : 30 + 7 ≤ a) (hG : okG (zvG M 30)) : zEv true (d + 4) 61 36 [(29, 0, x0), (26, a, x1), (0, n, y), (0, sd0, y2), (0, g0, 0), (0, 0, 0)] [] (zput (zup M 0 14 sd) a T) = zEv true (d + 4) 61 61 [(29, 0, x0), (26, a, x1), (0, n, y), (0, sd0, y2), (0, g0, 0), (0, M 30 7, 0)] [] (zput (zup M 0 14 (zit (dHand (zvG M 30)) (M 30 7).toNat 0 (T, sd)).2) a (zit (dHand (zvG M 30)) (M 30 7).toNat 0 (T, sd)).1) := by
  obtain ⟨-, ⟨g1, g2⟩, -⟩ := okG_M hG
  have e7 : zvG M 30 0 7 = M 30 7 := zvG_0 (by omega) (by omega)
  have hl := zfor (α := zM × Int) (ph := true) (d := d + 4) (j := 61) (pc := 36) (dHand (zvG M 30)) (fun h p => 0 ≤ h ∧ okD p.1 (zvG M 30)) (fun h _ => [(29, 0, x0), (26, a, x1), (0, n, y), (0, sd0, y2), (0, g0, 0), (0, h, 0)]) (fun p => zput (zup M 0 14 p.2) a p.1) (M 30 7)
    (fun k p hk hp => by
      obtain ⟨h0, h1⟩ := hp
      obtain ⟨U, su⟩ := p
      have hU : zt U = U := h1.1
      have e14 : zup M 0 14 su 0 14 = su := zup_e (by omega)
      have eG : zvG (zup M 0 14 su) 30 = zvG M 30 := zvG_out (by omega)
      have ez : ∀ w, zup (zup M 0 14 su) 0 14 w = zup M 0 14 w := fun w => zup_zup
      have key := c_drawHand (d + 2) x0 a x1 k 0 su (zup M 0 14 su) U hU ha sep e14 h0 (by omega)
      rw [eG, ez] at key
      constructor
      · dsimp only
        rw [e61_36]
        simp (disch := first | assumption | exact zrm0 | exact zrm1 _ | exact zrm2 _ _ | exact zrm3 _ _ _ | exact zrm4 _ _ _ _ | omega) only [m61, ↓k_dp, ↓k_dn, k_dp, k_dn, k_dT, k_dF, k_ip, k_in, if_true, if_false, ne_eq, not_true_eq_false, not_false_eq_true, Int.reduceAdd, zup_a, zup_e, zup_j, z32_id, k_al0, k_il3, k_pI, k_ic, k_is4, k_il4, k_il2, k_icge, k_al1, k_gI, k_v2r, k_is5, k_il5, k_gR, k_v3, k_inc5, k_goto, k_ifle, k_v3r, k_pop, k_inc4, k_ri, zb0_some, zb1_some, e61_0, e61_1, e61_2, e61_5, e61_6, e61_8, e61_10, e61_11, e61_14, e61_15, e61_18, e61_21, e61_24, e61_25, e61_26, e61_27, e61_30, e61_33, e61_34, e61_38, e61_39, e61_42, e61_45, e61_48, e61_49, e61_50, e61_52, e61_55, e61_58, e61_61, e61_62, e61_65, e61_68, e61_71, e61_72, e61_73, e61_76, e61_77, e61_78, e61_81, e61_84, e61_87, e61_90, e61_91, e61_92, e61_93, e61_96, e61_99, e61_100, e61_103, e61_106, e61_108, zput_o, key]
      · exact ⟨by omega, okD_hand hG h1 h0 (by rw [e7]; exact hk)⟩) (M 30 7).toNat 0 (T, sd) (by omega) ⟨Int.le_refl _, hT⟩
  rw [hl.1, e61_36]
  generalize zit (dHand (zvG M 30)) (M 30 7).toNat 0 (T, sd) = p
  simp (disch := first | assumption | exact zrm0 | exact zrm1 _ | exact zrm2 _ _ | exact zrm3 _ _ _ | exact zrm4 _ _ _ _ | omega) only [m61, ↓k_dp, ↓k_dn, k_dp, k_dn, k_dT, k_dF, k_ip, k_in, if_true, if_false, ne_eq, not_true_eq_false, not_false_eq_true, Int.reduceAdd, zup_a, zup_e, zup_j, z32_id, k_al0, k_il3, k_pI, k_ic, k_is4, k_il4, k_il2, k_icge, k_al1, k_gI, k_v2r, k_is5, k_il5, k_gR, k_v3, k_inc5, k_goto, k_ifle, k_v3r, k_pop, k_inc4, k_ri, zb0_some, zb1_some, e61_0, e61_1, e61_2, e61_5, e61_6, e61_8, e61_10, e61_11, e61_14, e61_15, e61_18, e61_21, e61_24, e61_25, e61_26, e61_27, e61_30, e61_33, e61_34, e61_38, e61_39, e61_42, e61_45, e61_48, e61_49, e61_50, e61_52, e61_55, e61_58, e61_62, e61_65, e61_68, e61_71, e61_72, e61_73, e61_76, e61_77, e61_78, e61_81, e61_84, e61_87, e61_90, e61_91, e61_92, e61_93, e61_96, e61_99, e61_100, e61_103, e61_106, e61_108, zput_o]
