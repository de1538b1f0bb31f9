/-! the crier's call -/
def relD (M : zM) : Prop := (∀ k, 0 ≤ k → k < M 30 6 → nmR (M 31 k) (M 204 k)) ∧ (∀ k, 0 ≤ k → k < M 30 7 → nmR (M 32 k) (M 204 (5 + k))) ∧ ∀ k, 0 ≤ k → k < M 30 8 → nmR (M 33 k) (M 204 (15 + k))
def fO (R : List Int) (i : Int) : Int := if i < (R.length : Int) then fN R i else zsta 9 4 (i - R.length)
def fD (R : List Int) (k l n i : Int) : Int := if i < (R.length : Int) + l then (if i < (R.length : Int) then fN R i else zsta 9 k (i - R.length)) else dDig n (i - (R.length + l))
theorem fN_bd {R : List Int} {i : Int} (hR : okL R) (i0 : 0 ≤ i) (i1 : i < R.length) : 0 ≤ fN R i ∧ fN R i < 128 := by
  have := hR.2 _ (getD_mem (R := R) (p := R.length - 1 - i.toNat) (by omega))
  unfold fN
  omega
theorem dDig_bd {n i : Int} (n0 : 0 ≤ n) (n1 : n ≤ 1000) : 0 ≤ dDig n i ∧ dDig n i < 128 := by
  unfold dDig
  (repeat' split) <;> omega
theorem zst_bd {k i : Int} (h : (k = 4 ∧ i < 8) ∨ (k = 5 ∧ i < 12) ∨ (k = 6 ∧ i < 9)) (i0 : 0 ≤ i) : 0 ≤ zsta 9 k i ∧ zsta 9 k i < 128 := by
  rcases h with ⟨rfl, h⟩ | ⟨rfl, h⟩ | ⟨rfl, h⟩
  · rcases (show i = 0 ∨ i = 1 ∨ i = 2 ∨ i = 3 ∨ i = 4 ∨ i = 5 ∨ i = 6 ∨ i = 7 by omega) with rfl | rfl | rfl | rfl | rfl | rfl | rfl | rfl <;> decide
  · rcases (show i = 0 ∨ i = 1 ∨ i = 2 ∨ i = 3 ∨ i = 4 ∨ i = 5 ∨ i = 6 ∨ i = 7 ∨ i = 8 ∨ i = 9 ∨ i = 10 ∨ i = 11 by omega) with rfl | rfl | rfl | rfl | rfl | rfl | rfl | rfl | rfl | rfl | rfl | rfl <;> decide
  · rcases (show i = 0 ∨ i = 1 ∨ i = 2 ∨ i = 3 ∨ i = 4 ∨ i = 5 ∨ i = 6 ∨ i = 7 ∨ i = 8 by omega) with rfl | rfl | rfl | rfl | rfl | rfl | rfl | rfl | rfl <;> decide
theorem m35 (ph : Bool) (d : Nat) (a x0 p0 y0 : Int) (M : zM) : zEm ph (d + 1) 35 [(29, a, x0), (0, p0, y0)] M = zEv ph d 35 0 [(29, a, x0), (0, p0, y0)] [] M := rfl
theorem e35_0 (ph : Bool) (d : Nat) (L st : List zV) (M : zM) : zEv ph d 35 0 L st M = zcont ph d 35 (zstep ph (zEm ph d) 4 1 0 [0] L st M) := zEv_step rfl
theorem e35_1 (ph : Bool) (d : Nat) (L st : List zV) (M : zM) : zEv ph d 35 1 L st M = zcont ph d 35 (zstep ph (zEm ph d) 2 2 0 [1] L st M) := zEv_step rfl
theorem e35_2 (ph : Bool) (d : Nat) (L st : List zV) (M : zM) : zEv ph d 35 2 L st M = zcont ph d 35 (zstep ph (zEm ph d) 70 5 47 [2, 1, 29] L st M) := zEv_step rfl
theorem e35_5 (ph : Bool) (d : Nat) (L st : List zV) (M : zM) : zEv ph d 35 5 L st M = zcont ph d 35 (zstep ph (zEm ph d) 41 8 10 [] L st M) := zEv_step rfl
theorem e35_8 (ph : Bool) (d : Nat) (L st : List zV) (M : zM) : zEv ph d 35 8 L st M = zcont ph d 35 (zstep ph (zEm ph d) 0 9 0 [-1] L st M) := zEv_step rfl
theorem e35_9 (ph : Bool) (d : Nat) (L st : List zV) (M : zM) : zEv ph d 35 9 L st M = zcont ph d 35 (zstep ph (zEm ph d) 80 10 0 [] L st M) := zEv_step rfl
theorem e35_10 (ph : Bool) (d : Nat) (L st : List zV) (M : zM) : zEv ph d 35 10 L st M = zcont ph d 35 (zstep ph (zEm ph d) 4 11 0 [0] L st M) := zEv_step rfl
theorem e35_11 (ph : Bool) (d : Nat) (L st : List zV) (M : zM) : zEv ph d 35 11 L st M = zcont ph d 35 (zstep ph (zEm ph d) 62 14 0 [29, 5, 51, 22, 0] L st M) := zEv_step rfl
theorem e35_14 (ph : Bool) (d : Nat) (L st : List zV) (M : zM) : zEv ph d 35 14 L st M = zcont ph d 35 (zstep ph (zEm ph d) 62 17 0 [22, 9, 3, 31, 0] L st M) := zEv_step rfl
theorem e35_17 (ph : Bool) (d : Nat) (L st : List zV) (M : zM) : zEv ph d 35 17 L st M = zcont ph d 35 (zstep ph (zEm ph d) 0 18 0 [0] L st M) := zEv_step rfl
theorem e35_18 (ph : Bool) (d : Nat) (L st : List zV) (M : zM) : zEv ph d 35 18 L st M = zcont ph d 35 (zstep ph (zEm ph d) 70 21 338 [2, 0, 31] L st M) := zEv_step rfl
theorem e35_21 (ph : Bool) (d : Nat) (L st : List zV) (M : zM) : zEv ph d 35 21 L st M = zcont ph d 35 (zstep ph (zEm ph d) 4 22 0 [0] L st M) := zEv_step rfl
theorem e35_22 (ph : Bool) (d : Nat) (L st : List zV) (M : zM) : zEv ph d 35 22 L st M = zcont ph d 35 (zstep ph (zEm ph d) 62 25 0 [29, 5, 51, 22, 0] L st M) := zEv_step rfl
theorem e35_25 (ph : Bool) (d : Nat) (L st : List zV) (M : zM) : zEv ph d 35 25 L st M = zcont ph d 35 (zstep ph (zEm ph d) 4 26 0 [0] L st M) := zEv_step rfl
theorem e35_26 (ph : Bool) (d : Nat) (L st : List zV) (M : zM) : zEv ph d 35 26 L st M = zcont ph d 35 (zstep ph (zEm ph d) 62 29 0 [29, 2, 30, 28, 0] L st M) := zEv_step rfl
theorem e35_29 (ph : Bool) (d : Nat) (L st : List zV) (M : zM) : zEv ph d 35 29 L st M = zcont ph d 35 (zstep ph (zEm ph d) 62 32 0 [28, 2, 3, 11, 5] L st M) := zEv_step rfl
theorem e35_32 (ph : Bool) (d : Nat) (L st : List zV) (M : zM) : zEv ph d 35 32 L st M = zcont ph d 35 (zstep ph (zEm ph d) 2 33 0 [1] L st M) := zEv_step rfl
theorem e35_33 (ph : Bool) (d : Nat) (L st : List zV) (M : zM) : zEv ph d 35 33 L st M = zcont ph d 35 (zstep ph (zEm ph d) 86 34 0 [] L st M) := zEv_step rfl
theorem e35_34 (ph : Bool) (d : Nat) (L st : List zV) (M : zM) : zEv ph d 35 34 L st M = zcont ph d 35 (zstep ph (zEm ph d) 70 37 70 [2, 0, 22] L st M) := zEv_step rfl
theorem e35_37 (ph : Bool) (d : Nat) (L st : List zV) (M : zM) : zEv ph d 35 37 L st M = zcont ph d 35 (zstep ph (zEm ph d) 4 38 0 [0] L st M) := zEv_step rfl
theorem e35_38 (ph : Bool) (d : Nat) (L st : List zV) (M : zM) : zEv ph d 35 38 L st M = zcont ph d 35 (zstep ph (zEm ph d) 62 41 0 [29, 3, 37, 26, 0] L st M) := zEv_step rfl
theorem e35_41 (ph : Bool) (d : Nat) (L st : List zV) (M : zM) : zEv ph d 35 41 L st M = zcont ph d 35 (zstep ph (zEm ph d) 62 44 0 [26, 4, 5, 10, 5] L st M) := zEv_step rfl
theorem e35_44 (ph : Bool) (d : Nat) (L st : List zV) (M : zM) : zEv ph d 35 44 L st M = zcont ph d 35 (zstep ph (zEm ph d) 2 45 0 [1] L st M) := zEv_step rfl
theorem e35_45 (ph : Bool) (d : Nat) (L st : List zV) (M : zM) : zEv ph d 35 45 L st M = zcont ph d 35 (zstep ph (zEm ph d) 85 46 0 [] L st M) := zEv_step rfl
theorem e35_46 (ph : Bool) (d : Nat) (L st : List zV) (M : zM) : zEv ph d 35 46 L st M = zcont ph d 35 (zstep ph (zEm ph d) 41 49 66 [] L st M) := zEv_step rfl
theorem e35_49 (ph : Bool) (d : Nat) (L st : List zV) (M : zM) : zEv ph d 35 49 L st M = zcont ph d 35 (zstep ph (zEm ph d) 4 50 0 [0] L st M) := zEv_step rfl
theorem e35_50 (ph : Bool) (d : Nat) (L st : List zV) (M : zM) : zEv ph d 35 50 L st M = zcont ph d 35 (zstep ph (zEm ph d) 62 53 0 [29, 5, 51, 22, 0] L st M) := zEv_step rfl
theorem e35_53 (ph : Bool) (d : Nat) (L st : List zV) (M : zM) : zEv ph d 35 53 L st M = zcont ph d 35 (zstep ph (zEm ph d) 62 56 0 [22, 9, 3, 31, 0] L st M) := zEv_step rfl
theorem e35_56 (ph : Bool) (d : Nat) (L st : List zV) (M : zM) : zEv ph d 35 56 L st M = zcont ph d 35 (zstep ph (zEm ph d) 97 59 0 [4, 8] L st M) := zEv_step rfl
theorem e35_59 (ph : Bool) (d : Nat) (L st : List zV) (M : zM) : zEv ph d 35 59 L st M = zcont ph d 35 (zstep ph (zEm ph d) 70 62 334 [2, 1, 31] L st M) := zEv_step rfl
theorem e35_62 (ph : Bool) (d : Nat) (L st : List zV) (M : zM) : zEv ph d 35 62 L st M = zcont ph d 35 (zstep ph (zEm ph d) 38 63 0 [] L st M) := zEv_step rfl
theorem e35_63 (ph : Bool) (d : Nat) (L st : List zV) (M : zM) : zEv ph d 35 63 L st M = zcont ph d 35 (zstep ph (zEm ph d) 52 66 119 [] L st M) := zEv_step rfl
theorem e35_66 (ph : Bool) (d : Nat) (L st : List zV) (M : zM) : zEv ph d 35 66 L st M = zcont ph d 35 (zstep ph (zEm ph d) 4 67 0 [0] L st M) := zEv_step rfl
theorem e35_67 (ph : Bool) (d : Nat) (L st : List zV) (M : zM) : zEv ph d 35 67 L st M = zcont ph d 35 (zstep ph (zEm ph d) 62 70 0 [29, 5, 51, 22, 0] L st M) := zEv_step rfl
theorem e35_70 (ph : Bool) (d : Nat) (L st : List zV) (M : zM) : zEv ph d 35 70 L st M = zcont ph d 35 (zstep ph (zEm ph d) 62 73 0 [22, 9, 3, 31, 0] L st M) := zEv_step rfl
theorem e35_73 (ph : Bool) (d : Nat) (L st : List zV) (M : zM) : zEv ph d 35 73 L st M = zcont ph d 35 (zstep ph (zEm ph d) 4 74 0 [0] L st M) := zEv_step rfl
theorem e35_74 (ph : Bool) (d : Nat) (L st : List zV) (M : zM) : zEv ph d 35 74 L st M = zcont ph d 35 (zstep ph (zEm ph d) 62 77 0 [29, 3, 37, 26, 0] L st M) := zEv_step rfl
theorem e35_77 (ph : Bool) (d : Nat) (L st : List zV) (M : zM) : zEv ph d 35 77 L st M = zcont ph d 35 (zstep ph (zEm ph d) 62 80 0 [26, 4, 5, 10, 5] L st M) := zEv_step rfl
theorem e35_80 (ph : Bool) (d : Nat) (L st : List zV) (M : zM) : zEv ph d 35 80 L st M = zcont ph d 35 (zstep ph (zEm ph d) 2 81 0 [1] L st M) := zEv_step rfl
theorem e35_81 (ph : Bool) (d : Nat) (L st : List zV) (M : zM) : zEv ph d 35 81 L st M = zcont ph d 35 (zstep ph (zEm ph d) 85 82 0 [] L st M) := zEv_step rfl
theorem e35_82 (ph : Bool) (d : Nat) (L st : List zV) (M : zM) : zEv ph d 35 82 L st M = zcont ph d 35 (zstep ph (zEm ph d) 0 83 0 [1] L st M) := zEv_step rfl
theorem e35_83 (ph : Bool) (d : Nat) (L st : List zV) (M : zM) : zEv ph d 35 83 L st M = zcont ph d 35 (zstep ph (zEm ph d) 47 86 92 [] L st M) := zEv_step rfl
theorem e35_86 (ph : Bool) (d : Nat) (L st : List zV) (M : zM) : zEv ph d 35 86 L st M = zcont ph d 35 (zstep ph (zEm ph d) 97 89 0 [5, 12] L st M) := zEv_step rfl
theorem e35_89 (ph : Bool) (d : Nat) (L st : List zV) (M : zM) : zEv ph d 35 89 L st M = zcont ph d 35 (zstep ph (zEm ph d) 52 92 95 [] L st M) := zEv_step rfl
theorem e35_92 (ph : Bool) (d : Nat) (L st : List zV) (M : zM) : zEv ph d 35 92 L st M = zcont ph d 35 (zstep ph (zEm ph d) 97 95 0 [6, 9] L st M) := zEv_step rfl
theorem e35_95 (ph : Bool) (d : Nat) (L st : List zV) (M : zM) : zEv ph d 35 95 L st M = zcont ph d 35 (zstep ph (zEm ph d) 70 98 334 [2, 1, 31] L st M) := zEv_step rfl
theorem e35_98 (ph : Bool) (d : Nat) (L st : List zV) (M : zM) : zEv ph d 35 98 L st M = zcont ph d 35 (zstep ph (zEm ph d) 38 99 0 [] L st M) := zEv_step rfl
theorem e35_99 (ph : Bool) (d : Nat) (L st : List zV) (M : zM) : zEv ph d 35 99 L st M = zcont ph d 35 (zstep ph (zEm ph d) 4 100 0 [0] L st M) := zEv_step rfl
theorem e35_100 (ph : Bool) (d : Nat) (L st : List zV) (M : zM) : zEv ph d 35 100 L st M = zcont ph d 35 (zstep ph (zEm ph d) 62 103 0 [29, 5, 51, 22, 0] L st M) := zEv_step rfl
theorem e35_103 (ph : Bool) (d : Nat) (L st : List zV) (M : zM) : zEv ph d 35 103 L st M = zcont ph d 35 (zstep ph (zEm ph d) 62 106 0 [22, 9, 3, 31, 0] L st M) := zEv_step rfl
theorem e35_106 (ph : Bool) (d : Nat) (L st : List zV) (M : zM) : zEv ph d 35 106 L st M = zcont ph d 35 (zstep ph (zEm ph d) 4 107 0 [0] L st M) := zEv_step rfl
theorem e35_107 (ph : Bool) (d : Nat) (L st : List zV) (M : zM) : zEv ph d 35 107 L st M = zcont ph d 35 (zstep ph (zEm ph d) 62 110 0 [29, 3, 37, 26, 0] L st M) := zEv_step rfl
theorem e35_110 (ph : Bool) (d : Nat) (L st : List zV) (M : zM) : zEv ph d 35 110 L st M = zcont ph d 35 (zstep ph (zEm ph d) 62 113 0 [26, 6, 7, 10, 5] L st M) := zEv_step rfl
theorem e35_113 (ph : Bool) (d : Nat) (L st : List zV) (M : zM) : zEv ph d 35 113 L st M = zcont ph d 35 (zstep ph (zEm ph d) 2 114 0 [1] L st M) := zEv_step rfl
theorem e35_114 (ph : Bool) (d : Nat) (L st : List zV) (M : zM) : zEv ph d 35 114 L st M = zcont ph d 35 (zstep ph (zEm ph d) 85 115 0 [] L st M) := zEv_step rfl
theorem e35_115 (ph : Bool) (d : Nat) (L st : List zV) (M : zM) : zEv ph d 35 115 L st M = zcont ph d 35 (zstep ph (zEm ph d) 70 118 336 [2, 1, 31] L st M) := zEv_step rfl
theorem e35_118 (ph : Bool) (d : Nat) (L st : List zV) (M : zM) : zEv ph d 35 118 L st M = zcont ph d 35 (zstep ph (zEm ph d) 38 119 0 [] L st M) := zEv_step rfl
theorem e35_119 (ph : Bool) (d : Nat) (L st : List zV) (M : zM) : zEv ph d 35 119 L st M = zcont ph d 35 (zstep ph (zEm ph d) 4 120 0 [0] L st M) := zEv_step rfl
theorem e35_120 (ph : Bool) (d : Nat) (L st : List zV) (M : zM) : zEv ph d 35 120 L st M = zcont ph d 35 (zstep ph (zEm ph d) 62 123 0 [29, 5, 51, 22, 0] L st M) := zEv_step rfl
theorem e35_123 (ph : Bool) (d : Nat) (L st : List zV) (M : zM) : zEv ph d 35 123 L st M = zcont ph d 35 (zstep ph (zEm ph d) 62 126 0 [22, 9, 3, 31, 0] L st M) := zEv_step rfl
theorem e35_126 (ph : Bool) (d : Nat) (L st : List zV) (M : zM) : zEv ph d 35 126 L st M = zcont ph d 35 (zstep ph (zEm ph d) 70 129 339 [1, 1, 31] L st M) := zEv_step rfl
theorem e35_129 (ph : Bool) (d : Nat) (L st : List zV) (M : zM) : zEv ph d 35 129 L st M = zcont ph d 35 (zstep ph (zEm ph d) 80 130 0 [] L st M) := zEv_step rfl
theorem m267 (ph : Bool) (d : Nat) (a x0 p0 y0 : Int) (M : zM) : zEm ph (d + 1) 267 [(30, a, x0), (0, p0, y0)] M = zEv ph d 267 0 [(30, a, x0), (0, p0, y0)] [] M := rfl
theorem e267_0 (ph : Bool) (d : Nat) (L st : List zV) (M : zM) : zEv ph d 267 0 L st M = zcont ph d 267 (zstep ph (zEm ph d) 4 1 0 [0] L st M) := zEv_step rfl
theorem e267_1 (ph : Bool) (d : Nat) (L st : List zV) (M : zM) : zEv ph d 267 1 L st M = zcont ph d 267 (zstep ph (zEm ph d) 0 2 0 [0] L st M) := zEv_step rfl
theorem e267_2 (ph : Bool) (d : Nat) (L st : List zV) (M : zM) : zEv ph d 267 2 L st M = zcont ph d 267 (zstep ph (zEm ph d) 65 5 0 [30, 0] L st M) := zEv_step rfl
theorem e267_5 (ph : Bool) (d : Nat) (L st : List zV) (M : zM) : zEv ph d 267 5 L st M = zcont ph d 267 (zstep ph (zEm ph d) 4 6 0 [0] L st M) := zEv_step rfl
theorem e267_6 (ph : Bool) (d : Nat) (L st : List zV) (M : zM) : zEv ph d 267 6 L st M = zcont ph d 267 (zstep ph (zEm ph d) 2 7 0 [1] L st M) := zEv_step rfl
theorem e267_7 (ph : Bool) (d : Nat) (L st : List zV) (M : zM) : zEv ph d 267 7 L st M = zcont ph d 267 (zstep ph (zEm ph d) 70 10 206 [2, 1, 30] L st M) := zEv_step rfl
theorem e267_10 (ph : Bool) (d : Nat) (L st : List zV) (M : zM) : zEv ph d 267 10 L st M = zcont ph d 267 (zstep ph (zEm ph d) 41 13 15 [] L st M) := zEv_step rfl
theorem e267_13 (ph : Bool) (d : Nat) (L st : List zV) (M : zM) : zEv ph d 267 13 L st M = zcont ph d 267 (zstep ph (zEm ph d) 0 14 0 [-1] L st M) := zEv_step rfl
theorem e267_14 (ph : Bool) (d : Nat) (L st : List zV) (M : zM) : zEv ph d 267 14 L st M = zcont ph d 267 (zstep ph (zEm ph d) 80 15 0 [] L st M) := zEv_step rfl
theorem e267_15 (ph : Bool) (d : Nat) (L st : List zV) (M : zM) : zEv ph d 267 15 L st M = zcont ph d 267 (zstep ph (zEm ph d) 4 16 0 [0] L st M) := zEv_step rfl
theorem e267_16 (ph : Bool) (d : Nat) (L st : List zV) (M : zM) : zEv ph d 267 16 L st M = zcont ph d 267 (zstep ph (zEm ph d) 0 17 0 [0] L st M) := zEv_step rfl
theorem e267_17 (ph : Bool) (d : Nat) (L st : List zV) (M : zM) : zEv ph d 267 17 L st M = zcont ph d 267 (zstep ph (zEm ph d) 65 20 0 [30, 39] L st M) := zEv_step rfl
theorem e267_20 (ph : Bool) (d : Nat) (L st : List zV) (M : zM) : zEv ph d 267 20 L st M = zcont ph d 267 (zstep ph (zEm ph d) 4 21 0 [0] L st M) := zEv_step rfl
theorem e267_21 (ph : Bool) (d : Nat) (L st : List zV) (M : zM) : zEv ph d 267 21 L st M = zcont ph d 267 (zstep ph (zEm ph d) 4 22 0 [0] L st M) := zEv_step rfl
theorem e267_22 (ph : Bool) (d : Nat) (L st : List zV) (M : zM) : zEv ph d 267 22 L st M = zcont ph d 267 (zstep ph (zEm ph d) 62 25 0 [30, 19, 7, 11, 20] L st M) := zEv_step rfl
theorem e267_25 (ph : Bool) (d : Nat) (L st : List zV) (M : zM) : zEv ph d 267 25 L st M = zcont ph d 267 (zstep ph (zEm ph d) 0 27 0 [15] L st M) := zEv_step rfl
theorem e267_27 (ph : Bool) (d : Nat) (L st : List zV) (M : zM) : zEv ph d 267 27 L st M = zcont ph d 267 (zstep ph (zEm ph d) 2 28 0 [1] L st M) := zEv_step rfl
theorem e267_28 (ph : Bool) (d : Nat) (L st : List zV) (M : zM) : zEv ph d 267 28 L st M = zcont ph d 267 (zstep ph (zEm ph d) 10 29 0 [] L st M) := zEv_step rfl
theorem e267_29 (ph : Bool) (d : Nat) (L st : List zV) (M : zM) : zEv ph d 267 29 L st M = zcont ph d 267 (zstep ph (zEm ph d) 86 30 0 [] L st M) := zEv_step rfl
theorem e267_30 (ph : Bool) (d : Nat) (L st : List zV) (M : zM) : zEv ph d 267 30 L st M = zcont ph d 267 (zstep ph (zEm ph d) 70 33 264 [2, 0, 30] L st M) := zEv_step rfl
theorem e267_33 (ph : Bool) (d : Nat) (L st : List zV) (M : zM) : zEv ph d 267 33 L st M = zcont ph d 267 (zstep ph (zEm ph d) 4 34 0 [0] L st M) := zEv_step rfl
theorem e267_34 (ph : Bool) (d : Nat) (L st : List zV) (M : zM) : zEv ph d 267 34 L st M = zcont ph d 267 (zstep ph (zEm ph d) 62 37 0 [30, 14, 2, 10, 368] L st M) := zEv_step rfl
theorem e267_37 (ph : Bool) (d : Nat) (L st : List zV) (M : zM) : zEv ph d 267 37 L st M = zcont ph d 267 (zstep ph (zEm ph d) 0 39 0 [111] L st M) := zEv_step rfl
theorem e267_39 (ph : Bool) (d : Nat) (L st : List zV) (M : zM) : zEv ph d 267 39 L st M = zcont ph d 267 (zstep ph (zEm ph d) 2 40 0 [1] L st M) := zEv_step rfl
theorem e267_40 (ph : Bool) (d : Nat) (L st : List zV) (M : zM) : zEv ph d 267 40 L st M = zcont ph d 267 (zstep ph (zEm ph d) 10 41 0 [] L st M) := zEv_step rfl
theorem e267_41 (ph : Bool) (d : Nat) (L st : List zV) (M : zM) : zEv ph d 267 41 L st M = zcont ph d 267 (zstep ph (zEm ph d) 85 42 0 [] L st M) := zEv_step rfl
theorem e267_42 (ph : Bool) (d : Nat) (L st : List zV) (M : zM) : zEv ph d 267 42 L st M = zcont ph d 267 (zstep ph (zEm ph d) 41 45 86 [] L st M) := zEv_step rfl
theorem e267_45 (ph : Bool) (d : Nat) (L st : List zV) (M : zM) : zEv ph d 267 45 L st M = zcont ph d 267 (zstep ph (zEm ph d) 4 46 0 [0] L st M) := zEv_step rfl
theorem e267_46 (ph : Bool) (d : Nat) (L st : List zV) (M : zM) : zEv ph d 267 46 L st M = zcont ph d 267 (zstep ph (zEm ph d) 0 48 0 [105] L st M) := zEv_step rfl
theorem e267_48 (ph : Bool) (d : Nat) (L st : List zV) (M : zM) : zEv ph d 267 48 L st M = zcont ph d 267 (zstep ph (zEm ph d) 0 50 0 [115] L st M) := zEv_step rfl
theorem e267_50 (ph : Bool) (d : Nat) (L st : List zV) (M : zM) : zEv ph d 267 50 L st M = zcont ph d 267 (zstep ph (zEm ph d) 0 51 0 [0] L st M) := zEv_step rfl
theorem e267_51 (ph : Bool) (d : Nat) (L st : List zV) (M : zM) : zEv ph d 267 51 L st M = zcont ph d 267 (zstep ph (zEm ph d) 0 52 0 [0] L st M) := zEv_step rfl
theorem e267_52 (ph : Bool) (d : Nat) (L st : List zV) (M : zM) : zEv ph d 267 52 L st M = zcont ph d 267 (zstep ph (zEm ph d) 0 53 0 [0] L st M) := zEv_step rfl
theorem e267_53 (ph : Bool) (d : Nat) (L st : List zV) (M : zM) : zEv ph d 267 53 L st M = zcont ph d 267 (zstep ph (zEm ph d) 0 54 0 [0] L st M) := zEv_step rfl
theorem e267_54 (ph : Bool) (d : Nat) (L st : List zV) (M : zM) : zEv ph d 267 54 L st M = zcont ph d 267 (zstep ph (zEm ph d) 0 55 0 [0] L st M) := zEv_step rfl
theorem e267_55 (ph : Bool) (d : Nat) (L st : List zV) (M : zM) : zEv ph d 267 55 L st M = zcont ph d 267 (zstep ph (zEm ph d) 0 56 0 [0] L st M) := zEv_step rfl
theorem e267_56 (ph : Bool) (d : Nat) (L st : List zV) (M : zM) : zEv ph d 267 56 L st M = zcont ph d 267 (zstep ph (zEm ph d) 70 59 177 [8, 1, -1] L st M) := zEv_step rfl
theorem e267_59 (ph : Bool) (d : Nat) (L st : List zV) (M : zM) : zEv ph d 267 59 L st M = zcont ph d 267 (zstep ph (zEm ph d) 70 62 266 [2, 0, 30] L st M) := zEv_step rfl
theorem e267_62 (ph : Bool) (d : Nat) (L st : List zV) (M : zM) : zEv ph d 267 62 L st M = zcont ph d 267 (zstep ph (zEm ph d) 4 63 0 [0] L st M) := zEv_step rfl
theorem e267_63 (ph : Bool) (d : Nat) (L st : List zV) (M : zM) : zEv ph d 267 63 L st M = zcont ph d 267 (zstep ph (zEm ph d) 0 65 0 [111] L st M) := zEv_step rfl
theorem e267_65 (ph : Bool) (d : Nat) (L st : List zV) (M : zM) : zEv ph d 267 65 L st M = zcont ph d 267 (zstep ph (zEm ph d) 0 67 0 [112] L st M) := zEv_step rfl
theorem e267_67 (ph : Bool) (d : Nat) (L st : List zV) (M : zM) : zEv ph d 267 67 L st M = zcont ph d 267 (zstep ph (zEm ph d) 0 69 0 [101] L st M) := zEv_step rfl
theorem e267_69 (ph : Bool) (d : Nat) (L st : List zV) (M : zM) : zEv ph d 267 69 L st M = zcont ph d 267 (zstep ph (zEm ph d) 0 71 0 [110] L st M) := zEv_step rfl
theorem e267_71 (ph : Bool) (d : Nat) (L st : List zV) (M : zM) : zEv ph d 267 71 L st M = zcont ph d 267 (zstep ph (zEm ph d) 0 72 0 [0] L st M) := zEv_step rfl
theorem e267_72 (ph : Bool) (d : Nat) (L st : List zV) (M : zM) : zEv ph d 267 72 L st M = zcont ph d 267 (zstep ph (zEm ph d) 0 73 0 [0] L st M) := zEv_step rfl
theorem e267_73 (ph : Bool) (d : Nat) (L st : List zV) (M : zM) : zEv ph d 267 73 L st M = zcont ph d 267 (zstep ph (zEm ph d) 0 74 0 [0] L st M) := zEv_step rfl
theorem e267_74 (ph : Bool) (d : Nat) (L st : List zV) (M : zM) : zEv ph d 267 74 L st M = zcont ph d 267 (zstep ph (zEm ph d) 0 75 0 [0] L st M) := zEv_step rfl
theorem e267_75 (ph : Bool) (d : Nat) (L st : List zV) (M : zM) : zEv ph d 267 75 L st M = zcont ph d 267 (zstep ph (zEm ph d) 70 78 177 [8, 1, -1] L st M) := zEv_step rfl
theorem e267_78 (ph : Bool) (d : Nat) (L st : List zV) (M : zM) : zEv ph d 267 78 L st M = zcont ph d 267 (zstep ph (zEm ph d) 70 81 266 [2, 0, 30] L st M) := zEv_step rfl
theorem e267_81 (ph : Bool) (d : Nat) (L st : List zV) (M : zM) : zEv ph d 267 81 L st M = zcont ph d 267 (zstep ph (zEm ph d) 4 82 0 [0] L st M) := zEv_step rfl
theorem e267_82 (ph : Bool) (d : Nat) (L st : List zV) (M : zM) : zEv ph d 267 82 L st M = zcont ph d 267 (zstep ph (zEm ph d) 60 85 0 [30, 39] L st M) := zEv_step rfl
theorem e267_85 (ph : Bool) (d : Nat) (L st : List zV) (M : zM) : zEv ph d 267 85 L st M = zcont ph d 267 (zstep ph (zEm ph d) 80 86 0 [] L st M) := zEv_step rfl
theorem e267_86 (ph : Bool) (d : Nat) (L st : List zV) (M : zM) : zEv ph d 267 86 L st M = zcont ph d 267 (zstep ph (zEm ph d) 4 87 0 [0] L st M) := zEv_step rfl
theorem e267_87 (ph : Bool) (d : Nat) (L st : List zV) (M : zM) : zEv ph d 267 87 L st M = zcont ph d 267 (zstep ph (zEm ph d) 4 88 0 [0] L st M) := zEv_step rfl
theorem e267_88 (ph : Bool) (d : Nat) (L st : List zV) (M : zM) : zEv ph d 267 88 L st M = zcont ph d 267 (zstep ph (zEm ph d) 62 91 0 [30, 14, 2, 10, 368] L st M) := zEv_step rfl
theorem e267_91 (ph : Bool) (d : Nat) (L st : List zV) (M : zM) : zEv ph d 267 91 L st M = zcont ph d 267 (zstep ph (zEm ph d) 0 93 0 [111] L st M) := zEv_step rfl
theorem e267_93 (ph : Bool) (d : Nat) (L st : List zV) (M : zM) : zEv ph d 267 93 L st M = zcont ph d 267 (zstep ph (zEm ph d) 2 94 0 [1] L st M) := zEv_step rfl
theorem e267_94 (ph : Bool) (d : Nat) (L st : List zV) (M : zM) : zEv ph d 267 94 L st M = zcont ph d 267 (zstep ph (zEm ph d) 10 95 0 [] L st M) := zEv_step rfl
theorem e267_95 (ph : Bool) (d : Nat) (L st : List zV) (M : zM) : zEv ph d 267 95 L st M = zcont ph d 267 (zstep ph (zEm ph d) 85 96 0 [] L st M) := zEv_step rfl
theorem e267_96 (ph : Bool) (d : Nat) (L st : List zV) (M : zM) : zEv ph d 267 96 L st M = zcont ph d 267 (zstep ph (zEm ph d) 0 97 0 [1] L st M) := zEv_step rfl
theorem e267_97 (ph : Bool) (d : Nat) (L st : List zV) (M : zM) : zEv ph d 267 97 L st M = zcont ph d 267 (zstep ph (zEm ph d) 47 100 121 [] L st M) := zEv_step rfl
theorem e267_100 (ph : Bool) (d : Nat) (L st : List zV) (M : zM) : zEv ph d 267 100 L st M = zcont ph d 267 (zstep ph (zEm ph d) 0 102 0 [99] L st M) := zEv_step rfl
theorem e267_102 (ph : Bool) (d : Nat) (L st : List zV) (M : zM) : zEv ph d 267 102 L st M = zcont ph d 267 (zstep ph (zEm ph d) 0 104 0 [97] L st M) := zEv_step rfl
theorem e267_104 (ph : Bool) (d : Nat) (L st : List zV) (M : zM) : zEv ph d 267 104 L st M = zcont ph d 267 (zstep ph (zEm ph d) 0 106 0 [114] L st M) := zEv_step rfl
theorem e267_106 (ph : Bool) (d : Nat) (L st : List zV) (M : zM) : zEv ph d 267 106 L st M = zcont ph d 267 (zstep ph (zEm ph d) 0 108 0 [114] L st M) := zEv_step rfl
theorem e267_108 (ph : Bool) (d : Nat) (L st : List zV) (M : zM) : zEv ph d 267 108 L st M = zcont ph d 267 (zstep ph (zEm ph d) 0 110 0 [105] L st M) := zEv_step rfl
theorem e267_110 (ph : Bool) (d : Nat) (L st : List zV) (M : zM) : zEv ph d 267 110 L st M = zcont ph d 267 (zstep ph (zEm ph d) 0 112 0 [101] L st M) := zEv_step rfl
theorem e267_112 (ph : Bool) (d : Nat) (L st : List zV) (M : zM) : zEv ph d 267 112 L st M = zcont ph d 267 (zstep ph (zEm ph d) 0 114 0 [100] L st M) := zEv_step rfl
theorem e267_114 (ph : Bool) (d : Nat) (L st : List zV) (M : zM) : zEv ph d 267 114 L st M = zcont ph d 267 (zstep ph (zEm ph d) 0 115 0 [0] L st M) := zEv_step rfl
theorem e267_115 (ph : Bool) (d : Nat) (L st : List zV) (M : zM) : zEv ph d 267 115 L st M = zcont ph d 267 (zstep ph (zEm ph d) 70 118 177 [8, 1, -1] L st M) := zEv_step rfl
theorem e267_118 (ph : Bool) (d : Nat) (L st : List zV) (M : zM) : zEv ph d 267 118 L st M = zcont ph d 267 (zstep ph (zEm ph d) 52 121 136 [] L st M) := zEv_step rfl
theorem e267_121 (ph : Bool) (d : Nat) (L st : List zV) (M : zM) : zEv ph d 267 121 L st M = zcont ph d 267 (zstep ph (zEm ph d) 0 123 0 [108] L st M) := zEv_step rfl
theorem e267_123 (ph : Bool) (d : Nat) (L st : List zV) (M : zM) : zEv ph d 267 123 L st M = zcont ph d 267 (zstep ph (zEm ph d) 0 125 0 [111] L st M) := zEv_step rfl
theorem e267_125 (ph : Bool) (d : Nat) (L st : List zV) (M : zM) : zEv ph d 267 125 L st M = zcont ph d 267 (zstep ph (zEm ph d) 0 127 0 [115] L st M) := zEv_step rfl
theorem e267_127 (ph : Bool) (d : Nat) (L st : List zV) (M : zM) : zEv ph d 267 127 L st M = zcont ph d 267 (zstep ph (zEm ph d) 0 129 0 [116] L st M) := zEv_step rfl
theorem e267_129 (ph : Bool) (d : Nat) (L st : List zV) (M : zM) : zEv ph d 267 129 L st M = zcont ph d 267 (zstep ph (zEm ph d) 0 130 0 [0] L st M) := zEv_step rfl
theorem e267_130 (ph : Bool) (d : Nat) (L st : List zV) (M : zM) : zEv ph d 267 130 L st M = zcont ph d 267 (zstep ph (zEm ph d) 0 131 0 [0] L st M) := zEv_step rfl
theorem e267_131 (ph : Bool) (d : Nat) (L st : List zV) (M : zM) : zEv ph d 267 131 L st M = zcont ph d 267 (zstep ph (zEm ph d) 0 132 0 [0] L st M) := zEv_step rfl
theorem e267_132 (ph : Bool) (d : Nat) (L st : List zV) (M : zM) : zEv ph d 267 132 L st M = zcont ph d 267 (zstep ph (zEm ph d) 0 133 0 [0] L st M) := zEv_step rfl
theorem e267_133 (ph : Bool) (d : Nat) (L st : List zV) (M : zM) : zEv ph d 267 133 L st M = zcont ph d 267 (zstep ph (zEm ph d) 70 136 177 [8, 1, -1] L st M) := zEv_step rfl
theorem e267_136 (ph : Bool) (d : Nat) (L st : List zV) (M : zM) : zEv ph d 267 136 L st M = zcont ph d 267 (zstep ph (zEm ph d) 70 139 266 [2, 0, 30] L st M) := zEv_step rfl
theorem e267_139 (ph : Bool) (d : Nat) (L st : List zV) (M : zM) : zEv ph d 267 139 L st M = zcont ph d 267 (zstep ph (zEm ph d) 4 140 0 [0] L st M) := zEv_step rfl
theorem e267_140 (ph : Bool) (d : Nat) (L st : List zV) (M : zM) : zEv ph d 267 140 L st M = zcont ph d 267 (zstep ph (zEm ph d) 0 142 0 [98] L st M) := zEv_step rfl
theorem e267_142 (ph : Bool) (d : Nat) (L st : List zV) (M : zM) : zEv ph d 267 142 L st M = zcont ph d 267 (zstep ph (zEm ph d) 0 144 0 [121] L st M) := zEv_step rfl
theorem e267_144 (ph : Bool) (d : Nat) (L st : List zV) (M : zM) : zEv ph d 267 144 L st M = zcont ph d 267 (zstep ph (zEm ph d) 0 145 0 [0] L st M) := zEv_step rfl
theorem e267_145 (ph : Bool) (d : Nat) (L st : List zV) (M : zM) : zEv ph d 267 145 L st M = zcont ph d 267 (zstep ph (zEm ph d) 0 146 0 [0] L st M) := zEv_step rfl
theorem e267_146 (ph : Bool) (d : Nat) (L st : List zV) (M : zM) : zEv ph d 267 146 L st M = zcont ph d 267 (zstep ph (zEm ph d) 0 147 0 [0] L st M) := zEv_step rfl
theorem e267_147 (ph : Bool) (d : Nat) (L st : List zV) (M : zM) : zEv ph d 267 147 L st M = zcont ph d 267 (zstep ph (zEm ph d) 0 148 0 [0] L st M) := zEv_step rfl
theorem e267_148 (ph : Bool) (d : Nat) (L st : List zV) (M : zM) : zEv ph d 267 148 L st M = zcont ph d 267 (zstep ph (zEm ph d) 0 149 0 [0] L st M) := zEv_step rfl
theorem e267_149 (ph : Bool) (d : Nat) (L st : List zV) (M : zM) : zEv ph d 267 149 L st M = zcont ph d 267 (zstep ph (zEm ph d) 0 150 0 [0] L st M) := zEv_step rfl
theorem e267_150 (ph : Bool) (d : Nat) (L st : List zV) (M : zM) : zEv ph d 267 150 L st M = zcont ph d 267 (zstep ph (zEm ph d) 70 153 177 [8, 1, -1] L st M) := zEv_step rfl
theorem e267_153 (ph : Bool) (d : Nat) (L st : List zV) (M : zM) : zEv ph d 267 153 L st M = zcont ph d 267 (zstep ph (zEm ph d) 70 156 266 [2, 0, 30] L st M) := zEv_step rfl
theorem e267_156 (ph : Bool) (d : Nat) (L st : List zV) (M : zM) : zEv ph d 267 156 L st M = zcont ph d 267 (zstep ph (zEm ph d) 4 157 0 [0] L st M) := zEv_step rfl
theorem e267_157 (ph : Bool) (d : Nat) (L st : List zV) (M : zM) : zEv ph d 267 157 L st M = zcont ph d 267 (zstep ph (zEm ph d) 0 159 0 [32] L st M) := zEv_step rfl
theorem e267_159 (ph : Bool) (d : Nat) (L st : List zV) (M : zM) : zEv ph d 267 159 L st M = zcont ph d 267 (zstep ph (zEm ph d) 70 162 263 [2, 0, 30] L st M) := zEv_step rfl
theorem e267_162 (ph : Bool) (d : Nat) (L st : List zV) (M : zM) : zEv ph d 267 162 L st M = zcont ph d 267 (zstep ph (zEm ph d) 4 163 0 [0] L st M) := zEv_step rfl
theorem e267_163 (ph : Bool) (d : Nat) (L st : List zV) (M : zM) : zEv ph d 267 163 L st M = zcont ph d 267 (zstep ph (zEm ph d) 4 164 0 [0] L st M) := zEv_step rfl
theorem e267_164 (ph : Bool) (d : Nat) (L st : List zV) (M : zM) : zEv ph d 267 164 L st M = zcont ph d 267 (zstep ph (zEm ph d) 62 167 0 [30, 14, 2, 10, 368] L st M) := zEv_step rfl
theorem e267_167 (ph : Bool) (d : Nat) (L st : List zV) (M : zM) : zEv ph d 267 167 L st M = zcont ph d 267 (zstep ph (zEm ph d) 0 169 0 [121] L st M) := zEv_step rfl
theorem e267_169 (ph : Bool) (d : Nat) (L st : List zV) (M : zM) : zEv ph d 267 169 L st M = zcont ph d 267 (zstep ph (zEm ph d) 2 170 0 [1] L st M) := zEv_step rfl
theorem e267_170 (ph : Bool) (d : Nat) (L st : List zV) (M : zM) : zEv ph d 267 170 L st M = zcont ph d 267 (zstep ph (zEm ph d) 10 171 0 [] L st M) := zEv_step rfl
theorem e267_171 (ph : Bool) (d : Nat) (L st : List zV) (M : zM) : zEv ph d 267 171 L st M = zcont ph d 267 (zstep ph (zEm ph d) 85 172 0 [] L st M) := zEv_step rfl
theorem e267_172 (ph : Bool) (d : Nat) (L st : List zV) (M : zM) : zEv ph d 267 172 L st M = zcont ph d 267 (zstep ph (zEm ph d) 70 175 265 [2, 0, 30] L st M) := zEv_step rfl
theorem e267_175 (ph : Bool) (d : Nat) (L st : List zV) (M : zM) : zEv ph d 267 175 L st M = zcont ph d 267 (zstep ph (zEm ph d) 4 176 0 [0] L st M) := zEv_step rfl
theorem e267_176 (ph : Bool) (d : Nat) (L st : List zV) (M : zM) : zEv ph d 267 176 L st M = zcont ph d 267 (zstep ph (zEm ph d) 60 179 0 [30, 39] L st M) := zEv_step rfl
theorem e267_179 (ph : Bool) (d : Nat) (L st : List zV) (M : zM) : zEv ph d 267 179 L st M = zcont ph d 267 (zstep ph (zEm ph d) 80 180 0 [] L st M) := zEv_step rfl
/-- the class: what its text is -/
theorem c_crier (d : Nat) (x0 q y : Int) (R : List Int) (M : zM) (hR : okL R) (hY : okY M) (g2 : 0 ≤ M 30 8 ∧ M 30 8 ≤ 5) (c : 0 ≤ q ∧ q < M 30 8) (hk : M 33 q = V32 R) (hr : 0 ≤ M 42 q ∧ M 42 q ≤ 2) (hm : M 42 q ≠ 0 → 0 ≤ M 44 q ∧ M 44 q ≤ 1000) : ∃ (n : Int) (F : Int → Int) (A : zM), zEm true (d + 12) 35 [(29, 0, x0), (0, q, y)] M = some ((0, n, 0), A) ∧ okY A ∧ A 54 3 = n ∧ (∀ i, 0 ≤ i → i < n → A (A 54 0) i = F i) ∧ (∀ x y, ¬ zFY x y → A x y = M x y) ∧ zPot M A ∧ (M 42 q = 0 → n = R.length + 8 ∧ F = fO R) ∧ (M 42 q = 1 → n = R.length + 12 + dLen (M 44 q) ∧ F = fD R 5 12 (M 44 q)) ∧ (M 42 q = 2 → n = R.length + 9 + dLen (M 44 q) ∧ F = fD R 6 9 (M 44 q)) := by
  have hl := hR.1
  obtain ⟨M1, s1, s2, s3, s4, s5⟩ := c_setLength (d + 6) 0 0 M hY
  obtain ⟨M2, t1, t2⟩ := c_cryName (d + 4) 0 0 R hR M1 s2 s3
  have t2' := t2
  obtain ⟨u1, u2, -, -, u5, u6⟩ := t2'
  rw [s3, Int.zero_add] at u2
  have m33 : M1 33 q = M 33 q := s4 _ _ (by unfold zFY; omega)
  have m42 : M2 42 q = M 42 q := by rw [u5 _ _ (by unfold zFY; omega), s4 _ _ (by unfold zFY; omega)]
  rw [hk] at m33
  by_cases c0 : M 42 q = 0
  · obtain ⟨A, a1, a2⟩ := s_app1 (d + 6) 0 4 8 M2 u1 (by omega) (by omega) (by omega)
    have hc := cT_comp (by omega) (by omega) t2 a2
    obtain ⟨b1, b2, b3, b4, b5, b6⟩ := hc
    rw [s3, Int.zero_add] at b2
    refine ⟨R.length + 8, fO R, A, ?_, b1, b2, fun i i0 i1 => ?_, fun x y h => by rw [b5 x y h, s4 x y h], zPot_trans s5 b6, fun _ => ⟨rfl, rfl⟩, fun h => by omega, fun h => by omega⟩
    · generalize V32 R = v at *
      simp (disch := first | assumption | exact zrm0 | exact zrm1 _ | exact zrm2 _ _ | exact zrm3 _ _ _ | exact zrm4 _ _ _ _ | omega) only [m35, ↓k_dp, ↓k_dn, k_dp, k_dn, k_dT, k_dF, k_ip, k_in, if_true, if_false, ne_eq, not_true_eq_false, not_false_eq_true, Int.reduceAdd, zup_a, zup_e, zup_j, z32_id, k_al0, k_il1, k_v2r, k_ifne, k_ic, k_ri, k_gR, k_v2, k_lld, k_ild, k_ildS, k_ildW, k_str, k_pop, k_goto, k_icne, k_v1r, zb0_some, zb1_some, e35_0, e35_1, e35_2, e35_5, e35_8, e35_9, e35_10, e35_11, e35_14, e35_17, e35_18, e35_21, e35_22, e35_25, e35_26, e35_29, e35_32, e35_33, e35_34, e35_37, e35_38, e35_41, e35_44, e35_45, e35_46, e35_49, e35_50, e35_53, e35_56, e35_59, e35_62, e35_63, e35_66, e35_67, e35_70, e35_73, e35_74, e35_77, e35_80, e35_81, e35_82, e35_83, e35_86, e35_89, e35_92, e35_95, e35_98, e35_99, e35_100, e35_103, e35_106, e35_107, e35_110, e35_113, e35_114, e35_115, e35_118, e35_119, e35_120, e35_123, e35_126, e35_129, c_isQuestion, if_pos c, s1, m33, t1, m42, c0, a1, s_sbLength, b2]
    · have := b4 i i0 i1
      rw [s3, Int.zero_add] at this
      exact this
  · obtain ⟨h44, h44'⟩ := hm c0
    have hd := dLen_bd (M 44 q)
    by_cases c1 : M 42 q = 1
    · obtain ⟨N, a1, a2⟩ := s_app1 (d + 6) 0 5 12 M2 u1 (by omega) (by omega) (by omega)
      have hc := cT_comp (by omega) (by omega) t2 a2
      have hc' := hc
      obtain ⟨b1, b2, b3, b4, b5, b6⟩ := hc
      rw [s3, Int.zero_add] at b2
      have m44 : N 44 q = M 44 q := by rw [b5 _ _ (by unfold zFY; omega), s4 _ _ (by unfold zFY; omega)]
      obtain ⟨A, e1, e2⟩ := s_app3 (d + 6) 0 (M 44 q) 0 N b1 h44 h44' (by omega)
      obtain ⟨f1, f2, f3, f4, f5, f6⟩ := cT_comp (by omega) (by omega) hc' e2
      rw [s3, Int.zero_add] at f2
      refine ⟨R.length + 12 + dLen (M 44 q), fD R 5 12 (M 44 q), A, ?_, f1, f2, fun i i0 i1 => ?_, fun x y h => by rw [f5 x y h, s4 x y h], zPot_trans s5 f6, fun h => by omega, fun _ => ⟨rfl, rfl⟩, fun h => by omega⟩
      · generalize V32 R = v at *
        generalize M 44 q = w at *
        simp (disch := first | assumption | exact zrm0 | exact zrm1 _ | exact zrm2 _ _ | exact zrm3 _ _ _ | exact zrm4 _ _ _ _ | omega) only [m35, ↓k_dp, ↓k_dn, k_dp, k_dn, k_dT, k_dF, k_ip, k_in, if_true, if_false, ne_eq, not_true_eq_false, not_false_eq_true, Int.reduceAdd, zup_a, zup_e, zup_j, z32_id, k_al0, k_il1, k_v2r, k_ifne, k_ic, k_ri, k_gR, k_v2, k_lld, k_ild, k_ildS, k_ildW, k_str, k_pop, k_goto, k_icne, k_v1r, zb0_some, zb1_some, e35_0, e35_1, e35_2, e35_5, e35_8, e35_9, e35_10, e35_11, e35_14, e35_17, e35_18, e35_21, e35_22, e35_25, e35_26, e35_29, e35_32, e35_33, e35_34, e35_37, e35_38, e35_41, e35_44, e35_45, e35_46, e35_49, e35_50, e35_53, e35_56, e35_59, e35_62, e35_63, e35_66, e35_67, e35_70, e35_73, e35_74, e35_77, e35_80, e35_81, e35_82, e35_83, e35_86, e35_89, e35_92, e35_95, e35_98, e35_99, e35_100, e35_103, e35_106, e35_107, e35_110, e35_113, e35_114, e35_115, e35_118, e35_119, e35_120, e35_123, e35_126, e35_129, c_isQuestion, if_pos c, s1, m33, t1, m42, c1, a1, m44, e1, s_sbLength, f2]
      · have := f4 i i0 i1
        rw [s3, Int.zero_add] at this
        exact this
    · have c2 : M 42 q = 2 := by omega
      obtain ⟨N, a1, a2⟩ := s_app1 (d + 6) 0 6 9 M2 u1 (by omega) (by omega) (by omega)
      have hc := cT_comp (by omega) (by omega) t2 a2
      have hc' := hc
      obtain ⟨b1, b2, b3, b4, b5, b6⟩ := hc
      rw [s3, Int.zero_add] at b2
      have m44 : N 44 q = M 44 q := by rw [b5 _ _ (by unfold zFY; omega), s4 _ _ (by unfold zFY; omega)]
      obtain ⟨A, e1, e2⟩ := s_app3 (d + 6) 0 (M 44 q) 0 N b1 h44 h44' (by omega)
      obtain ⟨f1, f2, f3, f4, f5, f6⟩ := cT_comp (by omega) (by omega) hc' e2
      rw [s3, Int.zero_add] at f2
      refine ⟨R.length + 9 + dLen (M 44 q), fD R 6 9 (M 44 q), A, ?_, f1, f2, fun i i0 i1 => ?_, fun x y h => by rw [f5 x y h, s4 x y h], zPot_trans s5 f6, fun h => by omega, fun h => by omega, fun _ => ⟨rfl, rfl⟩⟩
      · generalize V32 R = v at *
        generalize M 44 q = w at *
        simp (disch := first | assumption | exact zrm0 | exact zrm1 _ | exact zrm2 _ _ | exact zrm3 _ _ _ | exact zrm4 _ _ _ _ | omega) only [m35, ↓k_dp, ↓k_dn, k_dp, k_dn, k_dT, k_dF, k_ip, k_in, if_true, if_false, ne_eq, not_true_eq_false, not_false_eq_true, Int.reduceAdd, zup_a, zup_e, zup_j, z32_id, k_al0, k_il1, k_v2r, k_ifne, k_ic, k_ri, k_gR, k_v2, k_lld, k_ild, k_ildS, k_ildW, k_str, k_pop, k_goto, k_icne, k_v1r, zb0_some, zb1_some, e35_0, e35_1, e35_2, e35_5, e35_8, e35_9, e35_10, e35_11, e35_14, e35_17, e35_18, e35_21, e35_22, e35_25, e35_26, e35_29, e35_32, e35_33, e35_34, e35_37, e35_38, e35_41, e35_44, e35_45, e35_46, e35_49, e35_50, e35_53, e35_56, e35_59, e35_62, e35_63, e35_66, e35_67, e35_70, e35_73, e35_74, e35_77, e35_80, e35_81, e35_82, e35_83, e35_86, e35_89, e35_92, e35_95, e35_98, e35_99, e35_100, e35_103, e35_106, e35_107, e35_110, e35_113, e35_114, e35_115, e35_118, e35_119, e35_120, e35_123, e35_126, e35_129, c_isQuestion, if_pos c, s1, m33, t1, m42, c2, a1, m44, e1, s_sbLength, f2]
      · have := f4 i i0 i1
        rw [s3, Int.zero_add] at this
        exact this
