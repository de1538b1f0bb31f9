/-! a hand's power -/
theorem pwb_ok {n h s : Int} (h0 : 0 ≤ h) (h1 : h < n) (n1 : n ≤ 10) (s0 : 0 ≤ s) (s1 : s < zshl 1 n) : zand (zand (zshl 1 n - 1) (zxor s (-1))) (zxor (zshl 1 h) (-1)) = zand (zshl 1 n - 1) (zxor (zor s (zshl 1 h)) (-1)) := by
  obtain ⟨p1, p2, p3⟩ := pw_ok (h := n) (by omega) n1
  rw [← p3]
  obtain ⟨i, rfl⟩ := Int.eq_ofNat_of_zero_le h0
  obtain ⟨k, hk⟩ := Int.eq_ofNat_of_zero_le (show 0 ≤ n by omega)
  subst hk
  obtain ⟨j, rfl⟩ := Int.eq_ofNat_of_zero_le s0
  have := List.all_eq_true.mp (List.all_eq_true.mp pwb_all k (List.mem_range.mpr (by omega))) i (List.mem_range.mpr (by omega))
  simp only [Bool.or_eq_true, decide_eq_true_eq] at this
  rcases this with h | h
  · omega
  · have := List.all_eq_true.mp h j (List.mem_range.mpr (by omega))
    simp only [Bool.or_eq_true, decide_eq_true_eq] at this
    rcases this with h | h
    · omega
    · exact h
def sPowF (S G : zM) (h : Int) (s v : Int) : Int := if zand s (zshl 1 h) = 0 then (if sCar S G (zor s (zshl 1 h)) (zand (zshl 1 (G 0 7) - 1) (zxor (zor s (zshl 1 h)) (-1))) = true then (if sCar S G s (zand (zshl 1 (G 0 7) - 1) (zxor s (-1))) = true then v else z32 (v + 1)) else v) else v
def sPow (S G : zM) (h : Int) : Int := zit (sPowF S G h) (zshl 1 (G 0 7)).toNat 0 0
theorem m31 (ph : Bool) (d : Nat) (a x0 p0 y0 : Int) (M : zM) : zEm ph (d + 1) 31 [(29, a, x0), (0, p0, y0)] M = zEv ph d 31 0 [(29, a, x0), (0, p0, y0), (3, 0, 0), (3, 0, 0), (3, 0, 0), (3, 0, 0)] [] M := rfl
theorem e31_0 (ph : Bool) (d : Nat) (L st : List zV) (M : zM) : zEv ph d 31 0 L st M = zcont ph d 31 (zstep ph (zEm ph d) 4 1 0 [0] L st M) := zEv_step rfl
theorem e31_1 (ph : Bool) (d : Nat) (L st : List zV) (M : zM) : zEv ph d 31 1 L st M = zcont ph d 31 (zstep ph (zEm ph d) 2 2 0 [1] L st M) := zEv_step rfl
theorem e31_2 (ph : Bool) (d : Nat) (L st : List zV) (M : zM) : zEv ph d 31 2 L st M = zcont ph d 31 (zstep ph (zEm ph d) 70 5 46 [2, 1, 29] L st M) := zEv_step rfl
theorem e31_5 (ph : Bool) (d : Nat) (L st : List zV) (M : zM) : zEv ph d 31 5 L st M = zcont ph d 31 (zstep ph (zEm ph d) 41 8 10 [] L st M) := zEv_step rfl
theorem e31_8 (ph : Bool) (d : Nat) (L st : List zV) (M : zM) : zEv ph d 31 8 L st M = zcont ph d 31 (zstep ph (zEm ph d) 0 9 0 [-1] L st M) := zEv_step rfl
theorem e31_9 (ph : Bool) (d : Nat) (L st : List zV) (M : zM) : zEv ph d 31 9 L st M = zcont ph d 31 (zstep ph (zEm ph d) 80 10 0 [] L st M) := zEv_step rfl
theorem e31_10 (ph : Bool) (d : Nat) (L st : List zV) (M : zM) : zEv ph d 31 10 L st M = zcont ph d 31 (zstep ph (zEm ph d) 4 11 0 [0] L st M) := zEv_step rfl
theorem e31_11 (ph : Bool) (d : Nat) (L st : List zV) (M : zM) : zEv ph d 31 11 L st M = zcont ph d 31 (zstep ph (zEm ph d) 62 14 0 [29, 2, 30, 28, 0] L st M) := zEv_step rfl
theorem e31_14 (ph : Bool) (d : Nat) (L st : List zV) (M : zM) : zEv ph d 31 14 L st M = zcont ph d 31 (zstep ph (zEm ph d) 70 17 158 [1, 1, 28] L st M) := zEv_step rfl
theorem e31_17 (ph : Bool) (d : Nat) (L st : List zV) (M : zM) : zEv ph d 31 17 L st M = zcont ph d 31 (zstep ph (zEm ph d) 5 18 0 [2] L st M) := zEv_step rfl
theorem e31_18 (ph : Bool) (d : Nat) (L st : List zV) (M : zM) : zEv ph d 31 18 L st M = zcont ph d 31 (zstep ph (zEm ph d) 0 19 0 [1] L st M) := zEv_step rfl
theorem e31_19 (ph : Bool) (d : Nat) (L st : List zV) (M : zM) : zEv ph d 31 19 L st M = zcont ph d 31 (zstep ph (zEm ph d) 2 20 0 [1] L st M) := zEv_step rfl
theorem e31_20 (ph : Bool) (d : Nat) (L st : List zV) (M : zM) : zEv ph d 31 20 L st M = zcont ph d 31 (zstep ph (zEm ph d) 19 21 0 [] L st M) := zEv_step rfl
theorem e31_21 (ph : Bool) (d : Nat) (L st : List zV) (M : zM) : zEv ph d 31 21 L st M = zcont ph d 31 (zstep ph (zEm ph d) 5 22 0 [3] L st M) := zEv_step rfl
theorem e31_22 (ph : Bool) (d : Nat) (L st : List zV) (M : zM) : zEv ph d 31 22 L st M = zcont ph d 31 (zstep ph (zEm ph d) 0 23 0 [0] L st M) := zEv_step rfl
theorem e31_23 (ph : Bool) (d : Nat) (L st : List zV) (M : zM) : zEv ph d 31 23 L st M = zcont ph d 31 (zstep ph (zEm ph d) 5 25 0 [4] L st M) := zEv_step rfl
theorem e31_25 (ph : Bool) (d : Nat) (L st : List zV) (M : zM) : zEv ph d 31 25 L st M = zcont ph d 31 (zstep ph (zEm ph d) 0 26 0 [0] L st M) := zEv_step rfl
theorem e31_26 (ph : Bool) (d : Nat) (L st : List zV) (M : zM) : zEv ph d 31 26 L st M = zcont ph d 31 (zstep ph (zEm ph d) 5 28 0 [5] L st M) := zEv_step rfl
theorem e31_28 (ph : Bool) (d : Nat) (L st : List zV) (M : zM) : zEv ph d 31 28 L st M = zcont ph d 31 (zstep ph (zEm ph d) 2 30 0 [5] L st M) := zEv_step rfl
theorem e31_30 (ph : Bool) (d : Nat) (L st : List zV) (M : zM) : zEv ph d 31 30 L st M = zcont ph d 31 (zstep ph (zEm ph d) 2 31 0 [2] L st M) := zEv_step rfl
theorem e31_31 (ph : Bool) (d : Nat) (L st : List zV) (M : zM) : zEv ph d 31 31 L st M = zcont ph d 31 (zstep ph (zEm ph d) 50 34 98 [] L st M) := zEv_step rfl
theorem e31_34 (ph : Bool) (d : Nat) (L st : List zV) (M : zM) : zEv ph d 31 34 L st M = zcont ph d 31 (zstep ph (zEm ph d) 2 36 0 [5] L st M) := zEv_step rfl
theorem e31_36 (ph : Bool) (d : Nat) (L st : List zV) (M : zM) : zEv ph d 31 36 L st M = zcont ph d 31 (zstep ph (zEm ph d) 2 37 0 [3] L st M) := zEv_step rfl
theorem e31_37 (ph : Bool) (d : Nat) (L st : List zV) (M : zM) : zEv ph d 31 37 L st M = zcont ph d 31 (zstep ph (zEm ph d) 16 38 0 [] L st M) := zEv_step rfl
theorem e31_38 (ph : Bool) (d : Nat) (L st : List zV) (M : zM) : zEv ph d 31 38 L st M = zcont ph d 31 (zstep ph (zEm ph d) 41 41 92 [] L st M) := zEv_step rfl
theorem e31_41 (ph : Bool) (d : Nat) (L st : List zV) (M : zM) : zEv ph d 31 41 L st M = zcont ph d 31 (zstep ph (zEm ph d) 4 42 0 [0] L st M) := zEv_step rfl
theorem e31_42 (ph : Bool) (d : Nat) (L st : List zV) (M : zM) : zEv ph d 31 42 L st M = zcont ph d 31 (zstep ph (zEm ph d) 62 45 0 [29, 3, 37, 26, 0] L st M) := zEv_step rfl
theorem e31_45 (ph : Bool) (d : Nat) (L st : List zV) (M : zM) : zEv ph d 31 45 L st M = zcont ph d 31 (zstep ph (zEm ph d) 4 46 0 [0] L st M) := zEv_step rfl
theorem e31_46 (ph : Bool) (d : Nat) (L st : List zV) (M : zM) : zEv ph d 31 46 L st M = zcont ph d 31 (zstep ph (zEm ph d) 62 49 0 [29, 2, 30, 28, 0] L st M) := zEv_step rfl
theorem e31_49 (ph : Bool) (d : Nat) (L st : List zV) (M : zM) : zEv ph d 31 49 L st M = zcont ph d 31 (zstep ph (zEm ph d) 2 51 0 [5] L st M) := zEv_step rfl
theorem e31_51 (ph : Bool) (d : Nat) (L st : List zV) (M : zM) : zEv ph d 31 51 L st M = zcont ph d 31 (zstep ph (zEm ph d) 2 52 0 [3] L st M) := zEv_step rfl
theorem e31_52 (ph : Bool) (d : Nat) (L st : List zV) (M : zM) : zEv ph d 31 52 L st M = zcont ph d 31 (zstep ph (zEm ph d) 17 53 0 [] L st M) := zEv_step rfl
theorem e31_53 (ph : Bool) (d : Nat) (L st : List zV) (M : zM) : zEv ph d 31 53 L st M = zcont ph d 31 (zstep ph (zEm ph d) 2 54 0 [2] L st M) := zEv_step rfl
theorem e31_54 (ph : Bool) (d : Nat) (L st : List zV) (M : zM) : zEv ph d 31 54 L st M = zcont ph d 31 (zstep ph (zEm ph d) 2 56 0 [5] L st M) := zEv_step rfl
theorem e31_56 (ph : Bool) (d : Nat) (L st : List zV) (M : zM) : zEv ph d 31 56 L st M = zcont ph d 31 (zstep ph (zEm ph d) 2 57 0 [3] L st M) := zEv_step rfl
theorem e31_57 (ph : Bool) (d : Nat) (L st : List zV) (M : zM) : zEv ph d 31 57 L st M = zcont ph d 31 (zstep ph (zEm ph d) 17 58 0 [] L st M) := zEv_step rfl
theorem e31_58 (ph : Bool) (d : Nat) (L st : List zV) (M : zM) : zEv ph d 31 58 L st M = zcont ph d 31 (zstep ph (zEm ph d) 0 59 0 [-1] L st M) := zEv_step rfl
theorem e31_59 (ph : Bool) (d : Nat) (L st : List zV) (M : zM) : zEv ph d 31 59 L st M = zcont ph d 31 (zstep ph (zEm ph d) 18 60 0 [] L st M) := zEv_step rfl
theorem e31_60 (ph : Bool) (d : Nat) (L st : List zV) (M : zM) : zEv ph d 31 60 L st M = zcont ph d 31 (zstep ph (zEm ph d) 16 61 0 [] L st M) := zEv_step rfl
theorem e31_61 (ph : Bool) (d : Nat) (L st : List zV) (M : zM) : zEv ph d 31 61 L st M = zcont ph d 31 (zstep ph (zEm ph d) 70 64 120 [4, 1, 26] L st M) := zEv_step rfl
theorem e31_64 (ph : Bool) (d : Nat) (L st : List zV) (M : zM) : zEv ph d 31 64 L st M = zcont ph d 31 (zstep ph (zEm ph d) 40 67 92 [] L st M) := zEv_step rfl
theorem e31_67 (ph : Bool) (d : Nat) (L st : List zV) (M : zM) : zEv ph d 31 67 L st M = zcont ph d 31 (zstep ph (zEm ph d) 4 68 0 [0] L st M) := zEv_step rfl
theorem e31_68 (ph : Bool) (d : Nat) (L st : List zV) (M : zM) : zEv ph d 31 68 L st M = zcont ph d 31 (zstep ph (zEm ph d) 62 71 0 [29, 3, 37, 26, 0] L st M) := zEv_step rfl
theorem e31_71 (ph : Bool) (d : Nat) (L st : List zV) (M : zM) : zEv ph d 31 71 L st M = zcont ph d 31 (zstep ph (zEm ph d) 4 72 0 [0] L st M) := zEv_step rfl
theorem e31_72 (ph : Bool) (d : Nat) (L st : List zV) (M : zM) : zEv ph d 31 72 L st M = zcont ph d 31 (zstep ph (zEm ph d) 62 75 0 [29, 2, 30, 28, 0] L st M) := zEv_step rfl
theorem e31_75 (ph : Bool) (d : Nat) (L st : List zV) (M : zM) : zEv ph d 31 75 L st M = zcont ph d 31 (zstep ph (zEm ph d) 2 77 0 [5] L st M) := zEv_step rfl
theorem e31_77 (ph : Bool) (d : Nat) (L st : List zV) (M : zM) : zEv ph d 31 77 L st M = zcont ph d 31 (zstep ph (zEm ph d) 2 78 0 [2] L st M) := zEv_step rfl
theorem e31_78 (ph : Bool) (d : Nat) (L st : List zV) (M : zM) : zEv ph d 31 78 L st M = zcont ph d 31 (zstep ph (zEm ph d) 2 80 0 [5] L st M) := zEv_step rfl
theorem e31_80 (ph : Bool) (d : Nat) (L st : List zV) (M : zM) : zEv ph d 31 80 L st M = zcont ph d 31 (zstep ph (zEm ph d) 0 81 0 [-1] L st M) := zEv_step rfl
theorem e31_81 (ph : Bool) (d : Nat) (L st : List zV) (M : zM) : zEv ph d 31 81 L st M = zcont ph d 31 (zstep ph (zEm ph d) 18 82 0 [] L st M) := zEv_step rfl
theorem e31_82 (ph : Bool) (d : Nat) (L st : List zV) (M : zM) : zEv ph d 31 82 L st M = zcont ph d 31 (zstep ph (zEm ph d) 16 83 0 [] L st M) := zEv_step rfl
theorem e31_83 (ph : Bool) (d : Nat) (L st : List zV) (M : zM) : zEv ph d 31 83 L st M = zcont ph d 31 (zstep ph (zEm ph d) 70 86 120 [4, 1, 26] L st M) := zEv_step rfl
theorem e31_86 (ph : Bool) (d : Nat) (L st : List zV) (M : zM) : zEv ph d 31 86 L st M = zcont ph d 31 (zstep ph (zEm ph d) 41 89 92 [] L st M) := zEv_step rfl
theorem e31_89 (ph : Bool) (d : Nat) (L st : List zV) (M : zM) : zEv ph d 31 89 L st M = zcont ph d 31 (zstep ph (zEm ph d) 8 92 0 [4, 1] L st M) := zEv_step rfl
theorem e31_92 (ph : Bool) (d : Nat) (L st : List zV) (M : zM) : zEv ph d 31 92 L st M = zcont ph d 31 (zstep ph (zEm ph d) 8 95 0 [5, 1] L st M) := zEv_step rfl
theorem e31_95 (ph : Bool) (d : Nat) (L st : List zV) (M : zM) : zEv ph d 31 95 L st M = zcont ph d 31 (zstep ph (zEm ph d) 52 98 28 [] L st M) := zEv_step rfl
theorem e31_98 (ph : Bool) (d : Nat) (L st : List zV) (M : zM) : zEv ph d 31 98 L st M = zcont ph d 31 (zstep ph (zEm ph d) 2 100 0 [4] L st M) := zEv_step rfl
theorem e31_100 (ph : Bool) (d : Nat) (L st : List zV) (M : zM) : zEv ph d 31 100 L st M = zcont ph d 31 (zstep ph (zEm ph d) 80 101 0 [] L st M) := zEv_step rfl
theorem m259 (ph : Bool) (d : Nat) (a x0 p0 y0 : Int) (M : zM) : zEm ph (d + 1) 259 [(30, a, x0), (0, p0, y0)] M = zEv ph d 259 0 [(30, a, x0), (0, p0, y0), (3, 0, 0), (3, 0, 0), (3, 0, 0), (3, 0, 0)] [] M := rfl
theorem e259_0 (ph : Bool) (d : Nat) (L st : List zV) (M : zM) : zEv ph d 259 0 L st M = zcont ph d 259 (zstep ph (zEm ph d) 4 1 0 [0] L st M) := zEv_step rfl
theorem e259_1 (ph : Bool) (d : Nat) (L st : List zV) (M : zM) : zEv ph d 259 1 L st M = zcont ph d 259 (zstep ph (zEm ph d) 0 2 0 [0] L st M) := zEv_step rfl
theorem e259_2 (ph : Bool) (d : Nat) (L st : List zV) (M : zM) : zEv ph d 259 2 L st M = zcont ph d 259 (zstep ph (zEm ph d) 65 5 0 [30, 0] L st M) := zEv_step rfl
theorem e259_5 (ph : Bool) (d : Nat) (L st : List zV) (M : zM) : zEv ph d 259 5 L st M = zcont ph d 259 (zstep ph (zEm ph d) 4 6 0 [0] L st M) := zEv_step rfl
theorem e259_6 (ph : Bool) (d : Nat) (L st : List zV) (M : zM) : zEv ph d 259 6 L st M = zcont ph d 259 (zstep ph (zEm ph d) 2 7 0 [1] L st M) := zEv_step rfl
theorem e259_7 (ph : Bool) (d : Nat) (L st : List zV) (M : zM) : zEv ph d 259 7 L st M = zcont ph d 259 (zstep ph (zEm ph d) 70 10 205 [2, 1, 30] L st M) := zEv_step rfl
theorem e259_10 (ph : Bool) (d : Nat) (L st : List zV) (M : zM) : zEv ph d 259 10 L st M = zcont ph d 259 (zstep ph (zEm ph d) 41 13 15 [] L st M) := zEv_step rfl
theorem e259_13 (ph : Bool) (d : Nat) (L st : List zV) (M : zM) : zEv ph d 259 13 L st M = zcont ph d 259 (zstep ph (zEm ph d) 0 14 0 [-1] L st M) := zEv_step rfl
theorem e259_14 (ph : Bool) (d : Nat) (L st : List zV) (M : zM) : zEv ph d 259 14 L st M = zcont ph d 259 (zstep ph (zEm ph d) 80 15 0 [] L st M) := zEv_step rfl
theorem e259_15 (ph : Bool) (d : Nat) (L st : List zV) (M : zM) : zEv ph d 259 15 L st M = zcont ph d 259 (zstep ph (zEm ph d) 0 16 0 [1] L st M) := zEv_step rfl
theorem e259_16 (ph : Bool) (d : Nat) (L st : List zV) (M : zM) : zEv ph d 259 16 L st M = zcont ph d 259 (zstep ph (zEm ph d) 4 17 0 [0] L st M) := zEv_step rfl
theorem e259_17 (ph : Bool) (d : Nat) (L st : List zV) (M : zM) : zEv ph d 259 17 L st M = zcont ph d 259 (zstep ph (zEm ph d) 62 20 0 [30, 14, 2, 10, 368] L st M) := zEv_step rfl
theorem e259_20 (ph : Bool) (d : Nat) (L st : List zV) (M : zM) : zEv ph d 259 20 L st M = zcont ph d 259 (zstep ph (zEm ph d) 0 21 0 [1] L st M) := zEv_step rfl
theorem e259_21 (ph : Bool) (d : Nat) (L st : List zV) (M : zM) : zEv ph d 259 21 L st M = zcont ph d 259 (zstep ph (zEm ph d) 85 22 0 [] L st M) := zEv_step rfl
theorem e259_22 (ph : Bool) (d : Nat) (L st : List zV) (M : zM) : zEv ph d 259 22 L st M = zcont ph d 259 (zstep ph (zEm ph d) 19 23 0 [] L st M) := zEv_step rfl
theorem e259_23 (ph : Bool) (d : Nat) (L st : List zV) (M : zM) : zEv ph d 259 23 L st M = zcont ph d 259 (zstep ph (zEm ph d) 0 24 0 [1] L st M) := zEv_step rfl
theorem e259_24 (ph : Bool) (d : Nat) (L st : List zV) (M : zM) : zEv ph d 259 24 L st M = zcont ph d 259 (zstep ph (zEm ph d) 11 25 0 [] L st M) := zEv_step rfl
theorem e259_25 (ph : Bool) (d : Nat) (L st : List zV) (M : zM) : zEv ph d 259 25 L st M = zcont ph d 259 (zstep ph (zEm ph d) 5 26 0 [2] L st M) := zEv_step rfl
theorem e259_26 (ph : Bool) (d : Nat) (L st : List zV) (M : zM) : zEv ph d 259 26 L st M = zcont ph d 259 (zstep ph (zEm ph d) 0 27 0 [1] L st M) := zEv_step rfl
theorem e259_27 (ph : Bool) (d : Nat) (L st : List zV) (M : zM) : zEv ph d 259 27 L st M = zcont ph d 259 (zstep ph (zEm ph d) 2 28 0 [1] L st M) := zEv_step rfl
theorem e259_28 (ph : Bool) (d : Nat) (L st : List zV) (M : zM) : zEv ph d 259 28 L st M = zcont ph d 259 (zstep ph (zEm ph d) 19 29 0 [] L st M) := zEv_step rfl
theorem e259_29 (ph : Bool) (d : Nat) (L st : List zV) (M : zM) : zEv ph d 259 29 L st M = zcont ph d 259 (zstep ph (zEm ph d) 5 30 0 [3] L st M) := zEv_step rfl
theorem e259_30 (ph : Bool) (d : Nat) (L st : List zV) (M : zM) : zEv ph d 259 30 L st M = zcont ph d 259 (zstep ph (zEm ph d) 0 31 0 [0] L st M) := zEv_step rfl
theorem e259_31 (ph : Bool) (d : Nat) (L st : List zV) (M : zM) : zEv ph d 259 31 L st M = zcont ph d 259 (zstep ph (zEm ph d) 5 33 0 [4] L st M) := zEv_step rfl
theorem e259_33 (ph : Bool) (d : Nat) (L st : List zV) (M : zM) : zEv ph d 259 33 L st M = zcont ph d 259 (zstep ph (zEm ph d) 0 34 0 [0] L st M) := zEv_step rfl
theorem e259_34 (ph : Bool) (d : Nat) (L st : List zV) (M : zM) : zEv ph d 259 34 L st M = zcont ph d 259 (zstep ph (zEm ph d) 5 36 0 [5] L st M) := zEv_step rfl
theorem e259_36 (ph : Bool) (d : Nat) (L st : List zV) (M : zM) : zEv ph d 259 36 L st M = zcont ph d 259 (zstep ph (zEm ph d) 2 38 0 [5] L st M) := zEv_step rfl
theorem e259_38 (ph : Bool) (d : Nat) (L st : List zV) (M : zM) : zEv ph d 259 38 L st M = zcont ph d 259 (zstep ph (zEm ph d) 2 39 0 [2] L st M) := zEv_step rfl
theorem e259_39 (ph : Bool) (d : Nat) (L st : List zV) (M : zM) : zEv ph d 259 39 L st M = zcont ph d 259 (zstep ph (zEm ph d) 50 42 94 [] L st M) := zEv_step rfl
theorem e259_42 (ph : Bool) (d : Nat) (L st : List zV) (M : zM) : zEv ph d 259 42 L st M = zcont ph d 259 (zstep ph (zEm ph d) 2 44 0 [5] L st M) := zEv_step rfl
theorem e259_44 (ph : Bool) (d : Nat) (L st : List zV) (M : zM) : zEv ph d 259 44 L st M = zcont ph d 259 (zstep ph (zEm ph d) 2 45 0 [3] L st M) := zEv_step rfl
theorem e259_45 (ph : Bool) (d : Nat) (L st : List zV) (M : zM) : zEv ph d 259 45 L st M = zcont ph d 259 (zstep ph (zEm ph d) 16 46 0 [] L st M) := zEv_step rfl
theorem e259_46 (ph : Bool) (d : Nat) (L st : List zV) (M : zM) : zEv ph d 259 46 L st M = zcont ph d 259 (zstep ph (zEm ph d) 41 49 88 [] L st M) := zEv_step rfl
theorem e259_49 (ph : Bool) (d : Nat) (L st : List zV) (M : zM) : zEv ph d 259 49 L st M = zcont ph d 259 (zstep ph (zEm ph d) 4 50 0 [0] L st M) := zEv_step rfl
theorem e259_50 (ph : Bool) (d : Nat) (L st : List zV) (M : zM) : zEv ph d 259 50 L st M = zcont ph d 259 (zstep ph (zEm ph d) 2 52 0 [5] L st M) := zEv_step rfl
theorem e259_52 (ph : Bool) (d : Nat) (L st : List zV) (M : zM) : zEv ph d 259 52 L st M = zcont ph d 259 (zstep ph (zEm ph d) 2 53 0 [3] L st M) := zEv_step rfl
theorem e259_53 (ph : Bool) (d : Nat) (L st : List zV) (M : zM) : zEv ph d 259 53 L st M = zcont ph d 259 (zstep ph (zEm ph d) 17 54 0 [] L st M) := zEv_step rfl
theorem e259_54 (ph : Bool) (d : Nat) (L st : List zV) (M : zM) : zEv ph d 259 54 L st M = zcont ph d 259 (zstep ph (zEm ph d) 2 55 0 [2] L st M) := zEv_step rfl
theorem e259_55 (ph : Bool) (d : Nat) (L st : List zV) (M : zM) : zEv ph d 259 55 L st M = zcont ph d 259 (zstep ph (zEm ph d) 2 57 0 [5] L st M) := zEv_step rfl
theorem e259_57 (ph : Bool) (d : Nat) (L st : List zV) (M : zM) : zEv ph d 259 57 L st M = zcont ph d 259 (zstep ph (zEm ph d) 0 58 0 [-1] L st M) := zEv_step rfl
theorem e259_58 (ph : Bool) (d : Nat) (L st : List zV) (M : zM) : zEv ph d 259 58 L st M = zcont ph d 259 (zstep ph (zEm ph d) 18 59 0 [] L st M) := zEv_step rfl
theorem e259_59 (ph : Bool) (d : Nat) (L st : List zV) (M : zM) : zEv ph d 259 59 L st M = zcont ph d 259 (zstep ph (zEm ph d) 16 60 0 [] L st M) := zEv_step rfl
theorem e259_60 (ph : Bool) (d : Nat) (L st : List zV) (M : zM) : zEv ph d 259 60 L st M = zcont ph d 259 (zstep ph (zEm ph d) 2 61 0 [3] L st M) := zEv_step rfl
theorem e259_61 (ph : Bool) (d : Nat) (L st : List zV) (M : zM) : zEv ph d 259 61 L st M = zcont ph d 259 (zstep ph (zEm ph d) 0 62 0 [-1] L st M) := zEv_step rfl
theorem e259_62 (ph : Bool) (d : Nat) (L st : List zV) (M : zM) : zEv ph d 259 62 L st M = zcont ph d 259 (zstep ph (zEm ph d) 18 63 0 [] L st M) := zEv_step rfl
theorem e259_63 (ph : Bool) (d : Nat) (L st : List zV) (M : zM) : zEv ph d 259 63 L st M = zcont ph d 259 (zstep ph (zEm ph d) 16 64 0 [] L st M) := zEv_step rfl
theorem e259_64 (ph : Bool) (d : Nat) (L st : List zV) (M : zM) : zEv ph d 259 64 L st M = zcont ph d 259 (zstep ph (zEm ph d) 70 67 213 [3, 1, 30] L st M) := zEv_step rfl
theorem e259_67 (ph : Bool) (d : Nat) (L st : List zV) (M : zM) : zEv ph d 259 67 L st M = zcont ph d 259 (zstep ph (zEm ph d) 40 70 88 [] L st M) := zEv_step rfl
theorem e259_70 (ph : Bool) (d : Nat) (L st : List zV) (M : zM) : zEv ph d 259 70 L st M = zcont ph d 259 (zstep ph (zEm ph d) 4 71 0 [0] L st M) := zEv_step rfl
theorem e259_71 (ph : Bool) (d : Nat) (L st : List zV) (M : zM) : zEv ph d 259 71 L st M = zcont ph d 259 (zstep ph (zEm ph d) 2 73 0 [5] L st M) := zEv_step rfl
theorem e259_73 (ph : Bool) (d : Nat) (L st : List zV) (M : zM) : zEv ph d 259 73 L st M = zcont ph d 259 (zstep ph (zEm ph d) 2 74 0 [2] L st M) := zEv_step rfl
theorem e259_74 (ph : Bool) (d : Nat) (L st : List zV) (M : zM) : zEv ph d 259 74 L st M = zcont ph d 259 (zstep ph (zEm ph d) 2 76 0 [5] L st M) := zEv_step rfl
theorem e259_76 (ph : Bool) (d : Nat) (L st : List zV) (M : zM) : zEv ph d 259 76 L st M = zcont ph d 259 (zstep ph (zEm ph d) 0 77 0 [-1] L st M) := zEv_step rfl
theorem e259_77 (ph : Bool) (d : Nat) (L st : List zV) (M : zM) : zEv ph d 259 77 L st M = zcont ph d 259 (zstep ph (zEm ph d) 18 78 0 [] L st M) := zEv_step rfl
theorem e259_78 (ph : Bool) (d : Nat) (L st : List zV) (M : zM) : zEv ph d 259 78 L st M = zcont ph d 259 (zstep ph (zEm ph d) 16 79 0 [] L st M) := zEv_step rfl
theorem e259_79 (ph : Bool) (d : Nat) (L st : List zV) (M : zM) : zEv ph d 259 79 L st M = zcont ph d 259 (zstep ph (zEm ph d) 70 82 213 [3, 1, 30] L st M) := zEv_step rfl
theorem e259_82 (ph : Bool) (d : Nat) (L st : List zV) (M : zM) : zEv ph d 259 82 L st M = zcont ph d 259 (zstep ph (zEm ph d) 41 85 88 [] L st M) := zEv_step rfl
theorem e259_85 (ph : Bool) (d : Nat) (L st : List zV) (M : zM) : zEv ph d 259 85 L st M = zcont ph d 259 (zstep ph (zEm ph d) 8 88 0 [4, 1] L st M) := zEv_step rfl
theorem e259_88 (ph : Bool) (d : Nat) (L st : List zV) (M : zM) : zEv ph d 259 88 L st M = zcont ph d 259 (zstep ph (zEm ph d) 8 91 0 [5, 1] L st M) := zEv_step rfl
theorem e259_91 (ph : Bool) (d : Nat) (L st : List zV) (M : zM) : zEv ph d 259 91 L st M = zcont ph d 259 (zstep ph (zEm ph d) 52 94 36 [] L st M) := zEv_step rfl
theorem e259_94 (ph : Bool) (d : Nat) (L st : List zV) (M : zM) : zEv ph d 259 94 L st M = zcont ph d 259 (zstep ph (zEm ph d) 2 96 0 [4] L st M) := zEv_step rfl
theorem e259_96 (ph : Bool) (d : Nat) (L st : List zV) (M : zM) : zEv ph d 259 96 L st M = zcont ph d 259 (zstep ph (zEm ph d) 80 97 0 [] L st M) := zEv_step rfl
theorem c_power (d : Nat) (x0 h y : Int) (M : zM) (hG : okG (zvG M 30)) : zEm true (d + 8) 31 [(29, 0, x0), (0, h, y)] M = some ((0, if 0 ≤ h ∧ h < M 30 7 then sPow (zvS M 37) (zvG M 30) h else -1, 0), M) := by
  obtain ⟨⟨g6, g6'⟩, ⟨g1, g2⟩, ⟨g3, g4⟩, -⟩ := okG_M hG
  obtain ⟨p1, p2, p3⟩ := pw_ok g1 g2
  have e7 : zvG M 30 0 7 = M 30 7 := zvG_0 (by omega) (by omega)
  by_cases c : 0 ≤ h ∧ h < M 30 7
  · rw [if_pos c]
    have hl := zfor (ph := true) (d := d + 7) (j := 31) (pc := 28) (sPowF (zvS M 37) (zvG M 30) h) (fun s _ => 0 ≤ s) (fun s v => [(29, 0, x0), (0, h, y), (0, zshl 1 (M 30 7) - 1, 0), (0, zshl 1 h, 0), (0, v, 0), (0, s, 0)]) (fun _ => M) (zshl 1 (M 30 7))
      (fun s b hk hp => by
        constructor
        · rw [e31_28]
          unfold sPowF
          rw [e7]
          by_cases c1 : zand s (zshl 1 h) = 0
          · by_cases c2 : sCar (zvS M 37) (zvG M 30) (zor s (zshl 1 h)) (zand (zshl 1 (M 30 7) - 1) (zxor (zor s (zshl 1 h)) (-1))) = true
            · by_cases c3 : sCar (zvS M 37) (zvG M 30) s (zand (zshl 1 (M 30 7) - 1) (zxor s (-1))) = true
              · simp (disch := first | assumption | exact zrm0 | exact zrm1 _ | exact zrm2 _ _ | exact zrm3 _ _ _ | exact zrm4 _ _ _ _ | omega) only [m31, ↓k_dp, ↓k_dn, k_dp, k_dn, k_dT, k_dF, k_ip, k_in, if_true, if_false, ne_eq, not_true_eq_false, not_false_eq_true, Int.reduceAdd, zup_a, zup_e, zup_j, z32_id, k_al0, k_il1, k_v2r, k_ifne, k_ic, k_ri, k_gR, k_v1r, k_is2, k_ishl, k_is3, k_is4, k_is5, k_il5, k_il2, k_icgt, k_il3, k_iand, k_ior, k_ixor, k_v4r, k_ifeq, k_inc4, k_inc5, k_goto, k_il4, zb0_some, zb1_some, e31_0, e31_1, e31_2, e31_5, e31_8, e31_9, e31_10, e31_11, e31_14, e31_17, e31_18, e31_19, e31_20, e31_21, e31_22, e31_23, e31_25, e31_26, e31_30, e31_31, e31_34, e31_36, e31_37, e31_38, e31_41, e31_42, e31_45, e31_46, e31_49, e31_51, e31_52, e31_53, e31_54, e31_56, e31_57, e31_58, e31_59, e31_60, e31_61, e31_64, e31_67, e31_68, e31_71, e31_72, e31_75, e31_77, e31_78, e31_80, e31_81, e31_82, e31_83, e31_86, e31_89, e31_92, e31_95, e31_98, e31_100, c1, s_carries, c2, c3]
              · simp (disch := first | assumption | exact zrm0 | exact zrm1 _ | exact zrm2 _ _ | exact zrm3 _ _ _ | exact zrm4 _ _ _ _ | omega) only [m31, ↓k_dp, ↓k_dn, k_dp, k_dn, k_dT, k_dF, k_ip, k_in, if_true, if_false, ne_eq, not_true_eq_false, not_false_eq_true, Int.reduceAdd, zup_a, zup_e, zup_j, z32_id, k_al0, k_il1, k_v2r, k_ifne, k_ic, k_ri, k_gR, k_v1r, k_is2, k_ishl, k_is3, k_is4, k_is5, k_il5, k_il2, k_icgt, k_il3, k_iand, k_ior, k_ixor, k_v4r, k_ifeq, k_inc4, k_inc5, k_goto, k_il4, zb0_some, zb1_some, e31_0, e31_1, e31_2, e31_5, e31_8, e31_9, e31_10, e31_11, e31_14, e31_17, e31_18, e31_19, e31_20, e31_21, e31_22, e31_23, e31_25, e31_26, e31_30, e31_31, e31_34, e31_36, e31_37, e31_38, e31_41, e31_42, e31_45, e31_46, e31_49, e31_51, e31_52, e31_53, e31_54, e31_56, e31_57, e31_58, e31_59, e31_60, e31_61, e31_64, e31_67, e31_68, e31_71, e31_72, e31_75, e31_77, e31_78, e31_80, e31_81, e31_82, e31_83, e31_86, e31_89, e31_92, e31_95, e31_98, e31_100, c1, s_carries, c2, c3, Bool.false_eq_true]
            · simp (disch := first | assumption | exact zrm0 | exact zrm1 _ | exact zrm2 _ _ | exact zrm3 _ _ _ | exact zrm4 _ _ _ _ | omega) only [m31, ↓k_dp, ↓k_dn, k_dp, k_dn, k_dT, k_dF, k_ip, k_in, if_true, if_false, ne_eq, not_true_eq_false, not_false_eq_true, Int.reduceAdd, zup_a, zup_e, zup_j, z32_id, k_al0, k_il1, k_v2r, k_ifne, k_ic, k_ri, k_gR, k_v1r, k_is2, k_ishl, k_is3, k_is4, k_is5, k_il5, k_il2, k_icgt, k_il3, k_iand, k_ior, k_ixor, k_v4r, k_ifeq, k_inc4, k_inc5, k_goto, k_il4, zb0_some, zb1_some, e31_0, e31_1, e31_2, e31_5, e31_8, e31_9, e31_10, e31_11, e31_14, e31_17, e31_18, e31_19, e31_20, e31_21, e31_22, e31_23, e31_25, e31_26, e31_30, e31_31, e31_34, e31_36, e31_37, e31_38, e31_41, e31_42, e31_45, e31_46, e31_49, e31_51, e31_52, e31_53, e31_54, e31_56, e31_57, e31_58, e31_59, e31_60, e31_61, e31_64, e31_67, e31_68, e31_71, e31_72, e31_75, e31_77, e31_78, e31_80, e31_81, e31_82, e31_83, e31_86, e31_89, e31_92, e31_95, e31_98, e31_100, c1, s_carries, c2, Bool.false_eq_true]
          · simp (disch := first | assumption | exact zrm0 | exact zrm1 _ | exact zrm2 _ _ | exact zrm3 _ _ _ | exact zrm4 _ _ _ _ | omega) only [m31, ↓k_dp, ↓k_dn, k_dp, k_dn, k_dT, k_dF, k_ip, k_in, if_true, if_false, ne_eq, not_true_eq_false, not_false_eq_true, Int.reduceAdd, zup_a, zup_e, zup_j, z32_id, k_al0, k_il1, k_v2r, k_ifne, k_ic, k_ri, k_gR, k_v1r, k_is2, k_ishl, k_is3, k_is4, k_is5, k_il5, k_il2, k_icgt, k_il3, k_iand, k_ior, k_ixor, k_v4r, k_ifeq, k_inc4, k_inc5, k_goto, k_il4, zb0_some, zb1_some, e31_0, e31_1, e31_2, e31_5, e31_8, e31_9, e31_10, e31_11, e31_14, e31_17, e31_18, e31_19, e31_20, e31_21, e31_22, e31_23, e31_25, e31_26, e31_30, e31_31, e31_34, e31_36, e31_37, e31_38, e31_41, e31_42, e31_45, e31_46, e31_49, e31_51, e31_52, e31_53, e31_54, e31_56, e31_57, e31_58, e31_59, e31_60, e31_61, e31_64, e31_67, e31_68, e31_71, e31_72, e31_75, e31_77, e31_78, e31_80, e31_81, e31_82, e31_83, e31_86, e31_89, e31_92, e31_95, e31_98, e31_100, if_neg c1]
        · omega) (zshl 1 (M 30 7)).toNat 0 0 (by omega) (Int.le_refl _)
    simp (disch := first | assumption | exact zrm0 | exact zrm1 _ | exact zrm2 _ _ | exact zrm3 _ _ _ | exact zrm4 _ _ _ _ | omega) only [m31, ↓k_dp, ↓k_dn, k_dp, k_dn, k_dT, k_dF, k_ip, k_in, if_true, if_false, ne_eq, not_true_eq_false, not_false_eq_true, Int.reduceAdd, zup_a, zup_e, zup_j, z32_id, k_al0, k_il1, k_v2r, k_ifne, k_ic, k_ri, k_gR, k_v1r, k_is2, k_ishl, k_is3, k_is4, k_is5, k_il5, k_il2, k_icgt, k_il3, k_iand, k_ior, k_ixor, k_v4r, k_ifeq, k_inc4, k_inc5, k_goto, k_il4, zb0_some, zb1_some, e31_0, e31_1, e31_2, e31_5, e31_8, e31_9, e31_10, e31_11, e31_14, e31_17, e31_18, e31_19, e31_20, e31_21, e31_22, e31_23, e31_25, e31_26, e31_30, e31_31, e31_34, e31_36, e31_37, e31_38, e31_41, e31_42, e31_45, e31_46, e31_49, e31_51, e31_52, e31_53, e31_54, e31_56, e31_57, e31_58, e31_59, e31_60, e31_61, e31_64, e31_67, e31_68, e31_71, e31_72, e31_75, e31_77, e31_78, e31_80, e31_81, e31_82, e31_83, e31_86, e31_89, e31_92, e31_95, e31_98, e31_100, c_isHand, if_pos c, s_allHands, p3]
    rw [hl.1]
    unfold sPow
    rw [e7]
    simp (disch := first | assumption | exact zrm0 | exact zrm1 _ | exact zrm2 _ _ | exact zrm3 _ _ _ | exact zrm4 _ _ _ _ | omega) only [m31, ↓k_dp, ↓k_dn, k_dp, k_dn, k_dT, k_dF, k_ip, k_in, if_true, if_false, ne_eq, not_true_eq_false, not_false_eq_true, Int.reduceAdd, zup_a, zup_e, zup_j, z32_id, k_al0, k_il1, k_v2r, k_ifne, k_ic, k_ri, k_gR, k_v1r, k_is2, k_ishl, k_is3, k_is4, k_is5, k_il5, k_il2, k_icgt, k_il3, k_iand, k_ior, k_ixor, k_v4r, k_ifeq, k_inc4, k_inc5, k_goto, k_il4, zb0_some, zb1_some, e31_0, e31_1, e31_2, e31_5, e31_8, e31_9, e31_10, e31_11, e31_14, e31_17, e31_18, e31_19, e31_20, e31_21, e31_22, e31_23, e31_25, e31_26, e31_28, e31_30, e31_31, e31_34, e31_36, e31_37, e31_38, e31_41, e31_42, e31_45, e31_46, e31_49, e31_51, e31_52, e31_53, e31_54, e31_56, e31_57, e31_58, e31_59, e31_60, e31_61, e31_64, e31_67, e31_68, e31_71, e31_72, e31_75, e31_77, e31_78, e31_80, e31_81, e31_82, e31_83, e31_86, e31_89, e31_92, e31_95, e31_98, e31_100]
  · rw [if_neg c]
    simp (disch := first | assumption | exact zrm0 | exact zrm1 _ | exact zrm2 _ _ | exact zrm3 _ _ _ | exact zrm4 _ _ _ _ | omega) only [m31, ↓k_dp, ↓k_dn, k_dp, k_dn, k_dT, k_dF, k_ip, k_in, if_true, if_false, ne_eq, not_true_eq_false, not_false_eq_true, Int.reduceAdd, zup_a, zup_e, zup_j, z32_id, k_al0, k_il1, k_v2r, k_ifne, k_ic, k_ri, k_gR, k_v1r, k_is2, k_ishl, k_is3, k_is4, k_is5, k_il5, k_il2, k_icgt, k_il3, k_iand, k_ior, k_ixor, k_v4r, k_ifeq, k_inc4, k_inc5, k_goto, k_il4, zb0_some, zb1_some, e31_0, e31_1, e31_2, e31_5, e31_8, e31_9, e31_10, e31_11, e31_14, e31_17, e31_18, e31_19, e31_20, e31_21, e31_22, e31_23, e31_25, e31_26, e31_28, e31_30, e31_31, e31_34, e31_36, e31_37, e31_38, e31_41, e31_42, e31_45, e31_46, e31_49, e31_51, e31_52, e31_53, e31_54, e31_56, e31_57, e31_58, e31_59, e31_60, e31_61, e31_64, e31_67, e31_68, e31_71, e31_72, e31_75, e31_77, e31_78, e31_80, e31_81, e31_82, e31_83, e31_86, e31_89, e31_92, e31_95, e31_98, e31_100, c_isHand, if_neg c]
theorem r_power (d : Nat) (z0 h y : Int) (M : zM) (hS : okS (zrS M)) (hG : okG (zrG M)) : zEm true (d + 8) 259 [(30, 197, z0), (0, h, y)] M = some ((0, if 0 ≤ h ∧ h < M 199 1 then sPow (zrS M) (zrG M) h else -1, 0), zup M 197 0 0) := by
  obtain ⟨⟨g6, g6'⟩, ⟨g1, g2⟩, ⟨g3, g4⟩, -, -, -, gh⟩ := okR_M hG
  obtain ⟨p1, p2, p3⟩ := pw_ok g1 g2
  have t1 : okS (zrS (zup M 197 0 0)) := by rw [rT_S]; exact hS
  have t2 : okG (zrG (zup M 197 0 0)) := by rw [rT_G]; exact hG
  by_cases c : 0 ≤ h ∧ h < M 199 1
  · rw [if_pos c]
    have hl := zfor (ph := true) (d := d + 7) (j := 259) (pc := 36) (sPowF (zrS M) (zrG M) h) (fun s _ => 0 ≤ s) (fun s v => [(30, 197, z0), (0, h, y), (0, zshl 1 (M 199 1) - 1, 0), (0, zshl 1 h, 0), (0, v, 0), (0, s, 0)]) (fun _ => zup M 197 0 0) (zshl 1 (M 199 1))
      (fun s b hk hp => by
        have hb := pwb_ok c.1 c.2 g2 hp hk
        constructor
        · rw [e259_36]
          unfold sPowF
          rw [zrG_07]
          by_cases c1 : zand s (zshl 1 h) = 0
          · by_cases c2 : sCar (zrS M) (zrG M) (zor s (zshl 1 h)) (zand (zshl 1 (M 199 1) - 1) (zxor (zor s (zshl 1 h)) (-1))) = true
            · by_cases c3 : sCar (zrS M) (zrG M) s (zand (zshl 1 (M 199 1) - 1) (zxor s (-1))) = true
              · simp (disch := first | assumption | exact zrm0 | exact zrm1 _ | exact zrm2 _ _ | exact zrm3 _ _ _ | exact zrm4 _ _ _ _ | omega) only [m259, ↓k_dp, ↓k_dn, k_dp, k_dn, k_dT, k_dF, k_ip, k_in, if_true, if_false, ne_eq, not_true_eq_false, not_false_eq_true, Int.reduceAdd, zup_a, zup_e, zup_j, z32_id, k_al0, k_ic, k_pI, k_il1, k_v2r, k_ifne, k_ri, k_gR, k_ild, k_ildS, k_ildW, k_ishl, k_isub, k_is2, k_is3, k_is4, k_is5, k_il5, k_il2, k_icgt, k_il3, k_iand, k_ior, k_ixor, k_v3r, k_ifeq, k_inc4, k_inc5, k_goto, k_il4, zb0_some, zb1_some, e259_0, e259_1, e259_2, e259_5, e259_6, e259_7, e259_10, e259_13, e259_14, e259_15, e259_16, e259_17, e259_20, e259_21, e259_22, e259_23, e259_24, e259_25, e259_26, e259_27, e259_28, e259_29, e259_30, e259_31, e259_33, e259_34, e259_38, e259_39, e259_42, e259_44, e259_45, e259_46, e259_49, e259_50, e259_52, e259_53, e259_54, e259_55, e259_57, e259_58, e259_59, e259_60, e259_61, e259_62, e259_63, e259_64, e259_67, e259_70, e259_71, e259_73, e259_74, e259_76, e259_77, e259_78, e259_79, e259_82, e259_85, e259_88, e259_91, e259_94, e259_96, c1, r_isLouder, rT_S, rT_G, hb, c2, c3]
              · simp (disch := first | assumption | exact zrm0 | exact zrm1 _ | exact zrm2 _ _ | exact zrm3 _ _ _ | exact zrm4 _ _ _ _ | omega) only [m259, ↓k_dp, ↓k_dn, k_dp, k_dn, k_dT, k_dF, k_ip, k_in, if_true, if_false, ne_eq, not_true_eq_false, not_false_eq_true, Int.reduceAdd, zup_a, zup_e, zup_j, z32_id, k_al0, k_ic, k_pI, k_il1, k_v2r, k_ifne, k_ri, k_gR, k_ild, k_ildS, k_ildW, k_ishl, k_isub, k_is2, k_is3, k_is4, k_is5, k_il5, k_il2, k_icgt, k_il3, k_iand, k_ior, k_ixor, k_v3r, k_ifeq, k_inc4, k_inc5, k_goto, k_il4, zb0_some, zb1_some, e259_0, e259_1, e259_2, e259_5, e259_6, e259_7, e259_10, e259_13, e259_14, e259_15, e259_16, e259_17, e259_20, e259_21, e259_22, e259_23, e259_24, e259_25, e259_26, e259_27, e259_28, e259_29, e259_30, e259_31, e259_33, e259_34, e259_38, e259_39, e259_42, e259_44, e259_45, e259_46, e259_49, e259_50, e259_52, e259_53, e259_54, e259_55, e259_57, e259_58, e259_59, e259_60, e259_61, e259_62, e259_63, e259_64, e259_67, e259_70, e259_71, e259_73, e259_74, e259_76, e259_77, e259_78, e259_79, e259_82, e259_85, e259_88, e259_91, e259_94, e259_96, c1, r_isLouder, rT_S, rT_G, hb, c2, c3, Bool.false_eq_true]
            · simp (disch := first | assumption | exact zrm0 | exact zrm1 _ | exact zrm2 _ _ | exact zrm3 _ _ _ | exact zrm4 _ _ _ _ | omega) only [m259, ↓k_dp, ↓k_dn, k_dp, k_dn, k_dT, k_dF, k_ip, k_in, if_true, if_false, ne_eq, not_true_eq_false, not_false_eq_true, Int.reduceAdd, zup_a, zup_e, zup_j, z32_id, k_al0, k_ic, k_pI, k_il1, k_v2r, k_ifne, k_ri, k_gR, k_ild, k_ildS, k_ildW, k_ishl, k_isub, k_is2, k_is3, k_is4, k_is5, k_il5, k_il2, k_icgt, k_il3, k_iand, k_ior, k_ixor, k_v3r, k_ifeq, k_inc4, k_inc5, k_goto, k_il4, zb0_some, zb1_some, e259_0, e259_1, e259_2, e259_5, e259_6, e259_7, e259_10, e259_13, e259_14, e259_15, e259_16, e259_17, e259_20, e259_21, e259_22, e259_23, e259_24, e259_25, e259_26, e259_27, e259_28, e259_29, e259_30, e259_31, e259_33, e259_34, e259_38, e259_39, e259_42, e259_44, e259_45, e259_46, e259_49, e259_50, e259_52, e259_53, e259_54, e259_55, e259_57, e259_58, e259_59, e259_60, e259_61, e259_62, e259_63, e259_64, e259_67, e259_70, e259_71, e259_73, e259_74, e259_76, e259_77, e259_78, e259_79, e259_82, e259_85, e259_88, e259_91, e259_94, e259_96, c1, r_isLouder, rT_S, rT_G, hb, c2, Bool.false_eq_true]
          · simp (disch := first | assumption | exact zrm0 | exact zrm1 _ | exact zrm2 _ _ | exact zrm3 _ _ _ | exact zrm4 _ _ _ _ | omega) only [m259, ↓k_dp, ↓k_dn, k_dp, k_dn, k_dT, k_dF, k_ip, k_in, if_true, if_false, ne_eq, not_true_eq_false, not_false_eq_true, Int.reduceAdd, zup_a, zup_e, zup_j, z32_id, k_al0, k_ic, k_pI, k_il1, k_v2r, k_ifne, k_ri, k_gR, k_ild, k_ildS, k_ildW, k_ishl, k_isub, k_is2, k_is3, k_is4, k_is5, k_il5, k_il2, k_icgt, k_il3, k_iand, k_ior, k_ixor, k_v3r, k_ifeq, k_inc4, k_inc5, k_goto, k_il4, zb0_some, zb1_some, e259_0, e259_1, e259_2, e259_5, e259_6, e259_7, e259_10, e259_13, e259_14, e259_15, e259_16, e259_17, e259_20, e259_21, e259_22, e259_23, e259_24, e259_25, e259_26, e259_27, e259_28, e259_29, e259_30, e259_31, e259_33, e259_34, e259_38, e259_39, e259_42, e259_44, e259_45, e259_46, e259_49, e259_50, e259_52, e259_53, e259_54, e259_55, e259_57, e259_58, e259_59, e259_60, e259_61, e259_62, e259_63, e259_64, e259_67, e259_70, e259_71, e259_73, e259_74, e259_76, e259_77, e259_78, e259_79, e259_82, e259_85, e259_88, e259_91, e259_94, e259_96, if_neg c1]
        · omega) (zshl 1 (M 199 1)).toNat 0 0 (by omega) (Int.le_refl _)
    simp (disch := first | assumption | exact zrm0 | exact zrm1 _ | exact zrm2 _ _ | exact zrm3 _ _ _ | exact zrm4 _ _ _ _ | omega) only [m259, ↓k_dp, ↓k_dn, k_dp, k_dn, k_dT, k_dF, k_ip, k_in, if_true, if_false, ne_eq, not_true_eq_false, not_false_eq_true, Int.reduceAdd, zup_a, zup_e, zup_j, z32_id, k_al0, k_ic, k_pI, k_il1, k_v2r, k_ifne, k_ri, k_gR, k_ild, k_ildS, k_ildW, k_ishl, k_isub, k_is2, k_is3, k_is4, k_is5, k_il5, k_il2, k_icgt, k_il3, k_iand, k_ior, k_ixor, k_v3r, k_ifeq, k_inc4, k_inc5, k_goto, k_il4, zb0_some, zb1_some, e259_0, e259_1, e259_2, e259_5, e259_6, e259_7, e259_10, e259_13, e259_14, e259_15, e259_16, e259_17, e259_20, e259_21, e259_22, e259_23, e259_24, e259_25, e259_26, e259_27, e259_28, e259_29, e259_30, e259_31, e259_33, e259_34, e259_38, e259_39, e259_42, e259_44, e259_45, e259_46, e259_49, e259_50, e259_52, e259_53, e259_54, e259_55, e259_57, e259_58, e259_59, e259_60, e259_61, e259_62, e259_63, e259_64, e259_67, e259_70, e259_71, e259_73, e259_74, e259_76, e259_77, e259_78, e259_79, e259_82, e259_85, e259_88, e259_91, e259_94, e259_96, rT_isHand, if_pos c, p3]
    rw [hl.1]
    unfold sPow
    rw [zrG_07]
    simp (disch := first | assumption | exact zrm0 | exact zrm1 _ | exact zrm2 _ _ | exact zrm3 _ _ _ | exact zrm4 _ _ _ _ | omega) only [m259, ↓k_dp, ↓k_dn, k_dp, k_dn, k_dT, k_dF, k_ip, k_in, if_true, if_false, ne_eq, not_true_eq_false, not_false_eq_true, Int.reduceAdd, zup_a, zup_e, zup_j, z32_id, k_al0, k_ic, k_pI, k_il1, k_v2r, k_ifne, k_ri, k_gR, k_ild, k_ildS, k_ildW, k_ishl, k_isub, k_is2, k_is3, k_is4, k_is5, k_il5, k_il2, k_icgt, k_il3, k_iand, k_ior, k_ixor, k_v3r, k_ifeq, k_inc4, k_inc5, k_goto, k_il4, zb0_some, zb1_some, e259_0, e259_1, e259_2, e259_5, e259_6, e259_7, e259_10, e259_13, e259_14, e259_15, e259_16, e259_17, e259_20, e259_21, e259_22, e259_23, e259_24, e259_25, e259_26, e259_27, e259_28, e259_29, e259_30, e259_31, e259_33, e259_34, e259_36, e259_38, e259_39, e259_42, e259_44, e259_45, e259_46, e259_49, e259_50, e259_52, e259_53, e259_54, e259_55, e259_57, e259_58, e259_59, e259_60, e259_61, e259_62, e259_63, e259_64, e259_67, e259_70, e259_71, e259_73, e259_74, e259_76, e259_77, e259_78, e259_79, e259_82, e259_85, e259_88, e259_91, e259_94, e259_96]
  · rw [if_neg c]
    simp (disch := first | assumption | exact zrm0 | exact zrm1 _ | exact zrm2 _ _ | exact zrm3 _ _ _ | exact zrm4 _ _ _ _ | omega) only [m259, ↓k_dp, ↓k_dn, k_dp, k_dn, k_dT, k_dF, k_ip, k_in, if_true, if_false, ne_eq, not_true_eq_false, not_false_eq_true, Int.reduceAdd, zup_a, zup_e, zup_j, z32_id, k_al0, k_ic, k_pI, k_il1, k_v2r, k_ifne, k_ri, k_gR, k_ild, k_ildS, k_ildW, k_ishl, k_isub, k_is2, k_is3, k_is4, k_is5, k_il5, k_il2, k_icgt, k_il3, k_iand, k_ior, k_ixor, k_v3r, k_ifeq, k_inc4, k_inc5, k_goto, k_il4, zb0_some, zb1_some, e259_0, e259_1, e259_2, e259_5, e259_6, e259_7, e259_10, e259_13, e259_14, e259_15, e259_16, e259_17, e259_20, e259_21, e259_22, e259_23, e259_24, e259_25, e259_26, e259_27, e259_28, e259_29, e259_30, e259_31, e259_33, e259_34, e259_36, e259_38, e259_39, e259_42, e259_44, e259_45, e259_46, e259_49, e259_50, e259_52, e259_53, e259_54, e259_55, e259_57, e259_58, e259_59, e259_60, e259_61, e259_62, e259_63, e259_64, e259_67, e259_70, e259_71, e259_73, e259_74, e259_76, e259_77, e259_78, e259_79, e259_82, e259_85, e259_88, e259_91, e259_94, e259_96, rT_isHand, if_neg c]
theorem pair_power (d : Nat) (x0 z0 h y1 z1 : Int) (M : zM) (hC : relC M) (hE : relE M) : zPairQ M (zEm true (d + 8) 31 [(29, 0, x0), (0, h, y1)] M) (fun M1 => zEm true (d + 8) 259 [(30, 197, z0), (0, h, z1)] M1) := by
  obtain ⟨n0, n1, n2, n3, n4, n5⟩ := relC_n hC
  have r := r_power d z0 h z1 M (by rw [hE.1]; exact hE.2.1.1) (by rw [hC.1]; exact hC.2)
  rw [hE.1, hC.1, n1] at r
  exact ⟨_, c_power d x0 h y1 M hC.2, r⟩
