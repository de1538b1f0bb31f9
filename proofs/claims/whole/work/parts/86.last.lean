/-! what was told last; counting bits -/
def relH (M : zM) : Prop := M 197 10 = M 51 0 ∧ M 197 25 = M 51 1 ∧ M 197 26 = M 51 2 ∧ ((0 ≤ M 51 4 ∧ M 51 4 ≤ 10) ∧ M 197 29 = M 51 4 ∧ ∀ h, 0 ≤ h → h < M 51 4 → M 210 h = M 52 h) ∧ ((0 ≤ M 51 6 ∧ M 51 6 ≤ 5) ∧ M 197 33 = M 51 6 ∧ ∀ k, 0 ≤ k → k < M 51 6 → M 212 k = M 53 k) ∧ M 197 36 = M 51 7 ∧ M 197 37 = M 51 8 ∧ ((M 51 10 = 0 ∨ M 51 10 = 1) ∧ M 197 44 = M 51 10 ∧ (M 51 10 = 1 → M 217 0 = M 51 11 ∧ M 217 1 = M 51 12 ∧ M 217 2 = M 51 13 ∧ M 217 3 = M 51 14))
theorem m4 (ph : Bool) (d : Nat) (a x0 : Int) (M : zM) : zEm ph (d + 1) 4 [(29, a, x0)] M = zEv ph d 4 0 [(29, a, x0)] [] M := rfl
theorem e4_0 (ph : Bool) (d : Nat) (L st : List zV) (M : zM) : zEv ph d 4 0 L st M = zcont ph d 4 (zstep ph (zEm ph d) 4 1 0 [0] L st M) := zEv_step rfl
theorem e4_1 (ph : Bool) (d : Nat) (L st : List zV) (M : zM) : zEv ph d 4 1 L st M = zcont ph d 4 (zstep ph (zEm ph d) 62 4 0 [29, 5, 51, 22, 0] L st M) := zEv_step rfl
theorem e4_4 (ph : Bool) (d : Nat) (L st : List zV) (M : zM) : zEv ph d 4 4 L st M = zcont ph d 4 (zstep ph (zEm ph d) 60 7 0 [22, 0] L st M) := zEv_step rfl
theorem e4_7 (ph : Bool) (d : Nat) (L st : List zV) (M : zM) : zEv ph d 4 7 L st M = zcont ph d 4 (zstep ph (zEm ph d) 80 8 0 [] L st M) := zEv_step rfl
theorem m23 (ph : Bool) (d : Nat) (a x0 : Int) (M : zM) : zEm ph (d + 1) 23 [(29, a, x0)] M = zEv ph d 23 0 [(29, a, x0)] [] M := rfl
theorem e23_0 (ph : Bool) (d : Nat) (L st : List zV) (M : zM) : zEv ph d 23 0 L st M = zcont ph d 23 (zstep ph (zEm ph d) 4 1 0 [0] L st M) := zEv_step rfl
theorem e23_1 (ph : Bool) (d : Nat) (L st : List zV) (M : zM) : zEv ph d 23 1 L st M = zcont ph d 23 (zstep ph (zEm ph d) 62 4 0 [29, 5, 51, 22, 0] L st M) := zEv_step rfl
theorem e23_4 (ph : Bool) (d : Nat) (L st : List zV) (M : zM) : zEv ph d 23 4 L st M = zcont ph d 23 (zstep ph (zEm ph d) 60 7 0 [22, 1] L st M) := zEv_step rfl
theorem e23_7 (ph : Bool) (d : Nat) (L st : List zV) (M : zM) : zEv ph d 23 7 L st M = zcont ph d 23 (zstep ph (zEm ph d) 80 8 0 [] L st M) := zEv_step rfl
theorem m25 (ph : Bool) (d : Nat) (a x0 : Int) (M : zM) : zEm ph (d + 1) 25 [(29, a, x0)] M = zEv ph d 25 0 [(29, a, x0)] [] M := rfl
theorem e25_0 (ph : Bool) (d : Nat) (L st : List zV) (M : zM) : zEv ph d 25 0 L st M = zcont ph d 25 (zstep ph (zEm ph d) 4 1 0 [0] L st M) := zEv_step rfl
theorem e25_1 (ph : Bool) (d : Nat) (L st : List zV) (M : zM) : zEv ph d 25 1 L st M = zcont ph d 25 (zstep ph (zEm ph d) 62 4 0 [29, 5, 51, 22, 0] L st M) := zEv_step rfl
theorem e25_4 (ph : Bool) (d : Nat) (L st : List zV) (M : zM) : zEv ph d 25 4 L st M = zcont ph d 25 (zstep ph (zEm ph d) 60 7 0 [22, 2] L st M) := zEv_step rfl
theorem e25_7 (ph : Bool) (d : Nat) (L st : List zV) (M : zM) : zEv ph d 25 7 L st M = zcont ph d 25 (zstep ph (zEm ph d) 80 8 0 [] L st M) := zEv_step rfl
theorem m33 (ph : Bool) (d : Nat) (a x0 : Int) (M : zM) : zEm ph (d + 1) 33 [(29, a, x0)] M = zEv ph d 33 0 [(29, a, x0)] [] M := rfl
theorem e33_0 (ph : Bool) (d : Nat) (L st : List zV) (M : zM) : zEv ph d 33 0 L st M = zcont ph d 33 (zstep ph (zEm ph d) 4 1 0 [0] L st M) := zEv_step rfl
theorem e33_1 (ph : Bool) (d : Nat) (L st : List zV) (M : zM) : zEv ph d 33 1 L st M = zcont ph d 33 (zstep ph (zEm ph d) 62 4 0 [29, 5, 51, 22, 0] L st M) := zEv_step rfl
theorem e33_4 (ph : Bool) (d : Nat) (L st : List zV) (M : zM) : zEv ph d 33 4 L st M = zcont ph d 33 (zstep ph (zEm ph d) 60 7 0 [22, 7] L st M) := zEv_step rfl
theorem e33_7 (ph : Bool) (d : Nat) (L st : List zV) (M : zM) : zEv ph d 33 7 L st M = zcont ph d 33 (zstep ph (zEm ph d) 80 8 0 [] L st M) := zEv_step rfl
theorem m34 (ph : Bool) (d : Nat) (a x0 : Int) (M : zM) : zEm ph (d + 1) 34 [(29, a, x0)] M = zEv ph d 34 0 [(29, a, x0)] [] M := rfl
theorem e34_0 (ph : Bool) (d : Nat) (L st : List zV) (M : zM) : zEv ph d 34 0 L st M = zcont ph d 34 (zstep ph (zEm ph d) 4 1 0 [0] L st M) := zEv_step rfl
theorem e34_1 (ph : Bool) (d : Nat) (L st : List zV) (M : zM) : zEv ph d 34 1 L st M = zcont ph d 34 (zstep ph (zEm ph d) 62 4 0 [29, 5, 51, 22, 0] L st M) := zEv_step rfl
theorem e34_4 (ph : Bool) (d : Nat) (L st : List zV) (M : zM) : zEv ph d 34 4 L st M = zcont ph d 34 (zstep ph (zEm ph d) 60 7 0 [22, 8] L st M) := zEv_step rfl
theorem e34_7 (ph : Bool) (d : Nat) (L st : List zV) (M : zM) : zEv ph d 34 7 L st M = zcont ph d 34 (zstep ph (zEm ph d) 80 8 0 [] L st M) := zEv_step rfl
theorem m40 (ph : Bool) (d : Nat) (a x0 p0 y0 : Int) (M : zM) : zEm ph (d + 1) 40 [(29, a, x0), (0, p0, y0)] M = zEv ph d 40 0 [(29, a, x0), (0, p0, y0)] [] M := rfl
theorem e40_0 (ph : Bool) (d : Nat) (L st : List zV) (M : zM) : zEv ph d 40 0 L st M = zcont ph d 40 (zstep ph (zEm ph d) 4 1 0 [0] L st M) := zEv_step rfl
theorem e40_1 (ph : Bool) (d : Nat) (L st : List zV) (M : zM) : zEv ph d 40 1 L st M = zcont ph d 40 (zstep ph (zEm ph d) 62 4 0 [29, 5, 51, 22, 0] L st M) := zEv_step rfl
theorem e40_4 (ph : Bool) (d : Nat) (L st : List zV) (M : zM) : zEv ph d 40 4 L st M = zcont ph d 40 (zstep ph (zEm ph d) 60 7 0 [22, 10] L st M) := zEv_step rfl
theorem e40_7 (ph : Bool) (d : Nat) (L st : List zV) (M : zM) : zEv ph d 40 7 L st M = zcont ph d 40 (zstep ph (zEm ph d) 41 10 12 [] L st M) := zEv_step rfl
theorem e40_10 (ph : Bool) (d : Nat) (L st : List zV) (M : zM) : zEv ph d 40 10 L st M = zcont ph d 40 (zstep ph (zEm ph d) 0 11 0 [-1] L st M) := zEv_step rfl
theorem e40_11 (ph : Bool) (d : Nat) (L st : List zV) (M : zM) : zEv ph d 40 11 L st M = zcont ph d 40 (zstep ph (zEm ph d) 80 12 0 [] L st M) := zEv_step rfl
theorem e40_12 (ph : Bool) (d : Nat) (L st : List zV) (M : zM) : zEv ph d 40 12 L st M = zcont ph d 40 (zstep ph (zEm ph d) 2 13 0 [1] L st M) := zEv_step rfl
theorem e40_13 (ph : Bool) (d : Nat) (a y : Int) (L st : List zV) (M : zM) : zEv ph d 40 13 L ((0, a, y) :: st) M = dite (a = 0) (fun _ => zEv ph d 40 44 L st M) (fun _ => dite (a = 1) (fun _ => zEv ph d 40 52 L st M) (fun _ => dite (a = 2) (fun _ => zEv ph d 40 60 L st M) (fun _ => dite (a = 3) (fun _ => zEv ph d 40 68 L st M) (fun _ => zEv ph d 40 76 L st M)))) := (zEv_step (op := 56) (nx := 44) (tg := 76) (r := [0, 44, 52, 60, 68]) rfl).trans (zts4 (fun q => zEv ph d 40 q L st M))
theorem e40_44 (ph : Bool) (d : Nat) (L st : List zV) (M : zM) : zEv ph d 40 44 L st M = zcont ph d 40 (zstep ph (zEm ph d) 4 45 0 [0] L st M) := zEv_step rfl
theorem e40_45 (ph : Bool) (d : Nat) (L st : List zV) (M : zM) : zEv ph d 40 45 L st M = zcont ph d 40 (zstep ph (zEm ph d) 62 48 0 [29, 5, 51, 22, 0] L st M) := zEv_step rfl
theorem e40_48 (ph : Bool) (d : Nat) (L st : List zV) (M : zM) : zEv ph d 40 48 L st M = zcont ph d 40 (zstep ph (zEm ph d) 60 51 0 [22, 11] L st M) := zEv_step rfl
theorem e40_51 (ph : Bool) (d : Nat) (L st : List zV) (M : zM) : zEv ph d 40 51 L st M = zcont ph d 40 (zstep ph (zEm ph d) 80 52 0 [] L st M) := zEv_step rfl
theorem e40_52 (ph : Bool) (d : Nat) (L st : List zV) (M : zM) : zEv ph d 40 52 L st M = zcont ph d 40 (zstep ph (zEm ph d) 4 53 0 [0] L st M) := zEv_step rfl
theorem e40_53 (ph : Bool) (d : Nat) (L st : List zV) (M : zM) : zEv ph d 40 53 L st M = zcont ph d 40 (zstep ph (zEm ph d) 62 56 0 [29, 5, 51, 22, 0] L st M) := zEv_step rfl
theorem e40_56 (ph : Bool) (d : Nat) (L st : List zV) (M : zM) : zEv ph d 40 56 L st M = zcont ph d 40 (zstep ph (zEm ph d) 60 59 0 [22, 12] L st M) := zEv_step rfl
theorem e40_59 (ph : Bool) (d : Nat) (L st : List zV) (M : zM) : zEv ph d 40 59 L st M = zcont ph d 40 (zstep ph (zEm ph d) 80 60 0 [] L st M) := zEv_step rfl
theorem e40_60 (ph : Bool) (d : Nat) (L st : List zV) (M : zM) : zEv ph d 40 60 L st M = zcont ph d 40 (zstep ph (zEm ph d) 4 61 0 [0] L st M) := zEv_step rfl
theorem e40_61 (ph : Bool) (d : Nat) (L st : List zV) (M : zM) : zEv ph d 40 61 L st M = zcont ph d 40 (zstep ph (zEm ph d) 62 64 0 [29, 5, 51, 22, 0] L st M) := zEv_step rfl
theorem e40_64 (ph : Bool) (d : Nat) (L st : List zV) (M : zM) : zEv ph d 40 64 L st M = zcont ph d 40 (zstep ph (zEm ph d) 60 67 0 [22, 13] L st M) := zEv_step rfl
theorem e40_67 (ph : Bool) (d : Nat) (L st : List zV) (M : zM) : zEv ph d 40 67 L st M = zcont ph d 40 (zstep ph (zEm ph d) 80 68 0 [] L st M) := zEv_step rfl
theorem e40_68 (ph : Bool) (d : Nat) (L st : List zV) (M : zM) : zEv ph d 40 68 L st M = zcont ph d 40 (zstep ph (zEm ph d) 4 69 0 [0] L st M) := zEv_step rfl
theorem e40_69 (ph : Bool) (d : Nat) (L st : List zV) (M : zM) : zEv ph d 40 69 L st M = zcont ph d 40 (zstep ph (zEm ph d) 62 72 0 [29, 5, 51, 22, 0] L st M) := zEv_step rfl
theorem e40_72 (ph : Bool) (d : Nat) (L st : List zV) (M : zM) : zEv ph d 40 72 L st M = zcont ph d 40 (zstep ph (zEm ph d) 60 75 0 [22, 14] L st M) := zEv_step rfl
theorem e40_75 (ph : Bool) (d : Nat) (L st : List zV) (M : zM) : zEv ph d 40 75 L st M = zcont ph d 40 (zstep ph (zEm ph d) 80 76 0 [] L st M) := zEv_step rfl
theorem e40_76 (ph : Bool) (d : Nat) (L st : List zV) (M : zM) : zEv ph d 40 76 L st M = zcont ph d 40 (zstep ph (zEm ph d) 0 77 0 [-1] L st M) := zEv_step rfl
theorem e40_77 (ph : Bool) (d : Nat) (L st : List zV) (M : zM) : zEv ph d 40 77 L st M = zcont ph d 40 (zstep ph (zEm ph d) 80 78 0 [] L st M) := zEv_step rfl
theorem m28 (ph : Bool) (d : Nat) (a x0 p0 y0 : Int) (M : zM) : zEm ph (d + 1) 28 [(29, a, x0), (0, p0, y0)] M = zEv ph d 28 0 [(29, a, x0), (0, p0, y0)] [] M := rfl
theorem e28_0 (ph : Bool) (d : Nat) (L st : List zV) (M : zM) : zEv ph d 28 0 L st M = zcont ph d 28 (zstep ph (zEm ph d) 2 1 0 [1] L st M) := zEv_step rfl
theorem e28_1 (ph : Bool) (d : Nat) (L st : List zV) (M : zM) : zEv ph d 28 1 L st M = zcont ph d 28 (zstep ph (zEm ph d) 42 4 15 [] L st M) := zEv_step rfl
theorem e28_4 (ph : Bool) (d : Nat) (L st : List zV) (M : zM) : zEv ph d 28 4 L st M = zcont ph d 28 (zstep ph (zEm ph d) 2 5 0 [1] L st M) := zEv_step rfl
theorem e28_5 (ph : Bool) (d : Nat) (L st : List zV) (M : zM) : zEv ph d 28 5 L st M = zcont ph d 28 (zstep ph (zEm ph d) 4 6 0 [0] L st M) := zEv_step rfl
theorem e28_6 (ph : Bool) (d : Nat) (L st : List zV) (M : zM) : zEv ph d 28 6 L st M = zcont ph d 28 (zstep ph (zEm ph d) 62 9 0 [29, 5, 51, 22, 0] L st M) := zEv_step rfl
theorem e28_9 (ph : Bool) (d : Nat) (L st : List zV) (M : zM) : zEv ph d 28 9 L st M = zcont ph d 28 (zstep ph (zEm ph d) 60 12 0 [22, 4] L st M) := zEv_step rfl
theorem e28_12 (ph : Bool) (d : Nat) (L st : List zV) (M : zM) : zEv ph d 28 12 L st M = zcont ph d 28 (zstep ph (zEm ph d) 48 15 17 [] L st M) := zEv_step rfl
theorem e28_15 (ph : Bool) (d : Nat) (L st : List zV) (M : zM) : zEv ph d 28 15 L st M = zcont ph d 28 (zstep ph (zEm ph d) 0 16 0 [-1] L st M) := zEv_step rfl
theorem e28_16 (ph : Bool) (d : Nat) (L st : List zV) (M : zM) : zEv ph d 28 16 L st M = zcont ph d 28 (zstep ph (zEm ph d) 80 17 0 [] L st M) := zEv_step rfl
theorem e28_17 (ph : Bool) (d : Nat) (L st : List zV) (M : zM) : zEv ph d 28 17 L st M = zcont ph d 28 (zstep ph (zEm ph d) 4 18 0 [0] L st M) := zEv_step rfl
theorem e28_18 (ph : Bool) (d : Nat) (L st : List zV) (M : zM) : zEv ph d 28 18 L st M = zcont ph d 28 (zstep ph (zEm ph d) 62 21 0 [29, 5, 51, 22, 0] L st M) := zEv_step rfl
theorem e28_21 (ph : Bool) (d : Nat) (L st : List zV) (M : zM) : zEv ph d 28 21 L st M = zcont ph d 28 (zstep ph (zEm ph d) 62 24 0 [22, 3, 1, 10, 10] L st M) := zEv_step rfl
theorem e28_24 (ph : Bool) (d : Nat) (L st : List zV) (M : zM) : zEv ph d 28 24 L st M = zcont ph d 28 (zstep ph (zEm ph d) 2 25 0 [1] L st M) := zEv_step rfl
theorem e28_25 (ph : Bool) (d : Nat) (L st : List zV) (M : zM) : zEv ph d 28 25 L st M = zcont ph d 28 (zstep ph (zEm ph d) 85 26 0 [] L st M) := zEv_step rfl
theorem e28_26 (ph : Bool) (d : Nat) (L st : List zV) (M : zM) : zEv ph d 28 26 L st M = zcont ph d 28 (zstep ph (zEm ph d) 80 27 0 [] L st M) := zEv_step rfl
theorem m30 (ph : Bool) (d : Nat) (a x0 p0 y0 : Int) (M : zM) : zEm ph (d + 1) 30 [(29, a, x0), (0, p0, y0)] M = zEv ph d 30 0 [(29, a, x0), (0, p0, y0)] [] M := rfl
theorem e30_0 (ph : Bool) (d : Nat) (L st : List zV) (M : zM) : zEv ph d 30 0 L st M = zcont ph d 30 (zstep ph (zEm ph d) 2 1 0 [1] L st M) := zEv_step rfl
theorem e30_1 (ph : Bool) (d : Nat) (L st : List zV) (M : zM) : zEv ph d 30 1 L st M = zcont ph d 30 (zstep ph (zEm ph d) 42 4 15 [] L st M) := zEv_step rfl
theorem e30_4 (ph : Bool) (d : Nat) (L st : List zV) (M : zM) : zEv ph d 30 4 L st M = zcont ph d 30 (zstep ph (zEm ph d) 2 5 0 [1] L st M) := zEv_step rfl
theorem e30_5 (ph : Bool) (d : Nat) (L st : List zV) (M : zM) : zEv ph d 30 5 L st M = zcont ph d 30 (zstep ph (zEm ph d) 4 6 0 [0] L st M) := zEv_step rfl
theorem e30_6 (ph : Bool) (d : Nat) (L st : List zV) (M : zM) : zEv ph d 30 6 L st M = zcont ph d 30 (zstep ph (zEm ph d) 62 9 0 [29, 5, 51, 22, 0] L st M) := zEv_step rfl
theorem e30_9 (ph : Bool) (d : Nat) (L st : List zV) (M : zM) : zEv ph d 30 9 L st M = zcont ph d 30 (zstep ph (zEm ph d) 60 12 0 [22, 6] L st M) := zEv_step rfl
theorem e30_12 (ph : Bool) (d : Nat) (L st : List zV) (M : zM) : zEv ph d 30 12 L st M = zcont ph d 30 (zstep ph (zEm ph d) 48 15 17 [] L st M) := zEv_step rfl
theorem e30_15 (ph : Bool) (d : Nat) (L st : List zV) (M : zM) : zEv ph d 30 15 L st M = zcont ph d 30 (zstep ph (zEm ph d) 0 16 0 [-1] L st M) := zEv_step rfl
theorem e30_16 (ph : Bool) (d : Nat) (L st : List zV) (M : zM) : zEv ph d 30 16 L st M = zcont ph d 30 (zstep ph (zEm ph d) 80 17 0 [] L st M) := zEv_step rfl
theorem e30_17 (ph : Bool) (d : Nat) (L st : List zV) (M : zM) : zEv ph d 30 17 L st M = zcont ph d 30 (zstep ph (zEm ph d) 4 18 0 [0] L st M) := zEv_step rfl
theorem e30_18 (ph : Bool) (d : Nat) (L st : List zV) (M : zM) : zEv ph d 30 18 L st M = zcont ph d 30 (zstep ph (zEm ph d) 62 21 0 [29, 5, 51, 22, 0] L st M) := zEv_step rfl
theorem e30_21 (ph : Bool) (d : Nat) (L st : List zV) (M : zM) : zEv ph d 30 21 L st M = zcont ph d 30 (zstep ph (zEm ph d) 62 24 0 [22, 5, 2, 10, 5] L st M) := zEv_step rfl
theorem e30_24 (ph : Bool) (d : Nat) (L st : List zV) (M : zM) : zEv ph d 30 24 L st M = zcont ph d 30 (zstep ph (zEm ph d) 2 25 0 [1] L st M) := zEv_step rfl
theorem e30_25 (ph : Bool) (d : Nat) (L st : List zV) (M : zM) : zEv ph d 30 25 L st M = zcont ph d 30 (zstep ph (zEm ph d) 85 26 0 [] L st M) := zEv_step rfl
theorem e30_26 (ph : Bool) (d : Nat) (L st : List zV) (M : zM) : zEv ph d 30 26 L st M = zcont ph d 30 (zstep ph (zEm ph d) 80 27 0 [] L st M) := zEv_step rfl
theorem m204 (ph : Bool) (d : Nat) (a x0 : Int) (M : zM) : zEm ph (d + 1) 204 [(30, a, x0)] M = zEv ph d 204 0 [(30, a, x0)] [] M := rfl
theorem e204_0 (ph : Bool) (d : Nat) (L st : List zV) (M : zM) : zEv ph d 204 0 L st M = zcont ph d 204 (zstep ph (zEm ph d) 4 1 0 [0] L st M) := zEv_step rfl
theorem e204_1 (ph : Bool) (d : Nat) (L st : List zV) (M : zM) : zEv ph d 204 1 L st M = zcont ph d 204 (zstep ph (zEm ph d) 0 2 0 [0] L st M) := zEv_step rfl
theorem e204_2 (ph : Bool) (d : Nat) (L st : List zV) (M : zM) : zEv ph d 204 2 L st M = zcont ph d 204 (zstep ph (zEm ph d) 65 5 0 [30, 0] L st M) := zEv_step rfl
theorem e204_5 (ph : Bool) (d : Nat) (L st : List zV) (M : zM) : zEv ph d 204 5 L st M = zcont ph d 204 (zstep ph (zEm ph d) 4 6 0 [0] L st M) := zEv_step rfl
theorem e204_6 (ph : Bool) (d : Nat) (L st : List zV) (M : zM) : zEv ph d 204 6 L st M = zcont ph d 204 (zstep ph (zEm ph d) 60 9 0 [30, 10] L st M) := zEv_step rfl
theorem e204_9 (ph : Bool) (d : Nat) (L st : List zV) (M : zM) : zEv ph d 204 9 L st M = zcont ph d 204 (zstep ph (zEm ph d) 80 10 0 [] L st M) := zEv_step rfl
theorem m246 (ph : Bool) (d : Nat) (a x0 : Int) (M : zM) : zEm ph (d + 1) 246 [(30, a, x0)] M = zEv ph d 246 0 [(30, a, x0)] [] M := rfl
theorem e246_0 (ph : Bool) (d : Nat) (L st : List zV) (M : zM) : zEv ph d 246 0 L st M = zcont ph d 246 (zstep ph (zEm ph d) 4 1 0 [0] L st M) := zEv_step rfl
theorem e246_1 (ph : Bool) (d : Nat) (L st : List zV) (M : zM) : zEv ph d 246 1 L st M = zcont ph d 246 (zstep ph (zEm ph d) 0 2 0 [0] L st M) := zEv_step rfl
theorem e246_2 (ph : Bool) (d : Nat) (L st : List zV) (M : zM) : zEv ph d 246 2 L st M = zcont ph d 246 (zstep ph (zEm ph d) 65 5 0 [30, 0] L st M) := zEv_step rfl
theorem e246_5 (ph : Bool) (d : Nat) (L st : List zV) (M : zM) : zEv ph d 246 5 L st M = zcont ph d 246 (zstep ph (zEm ph d) 4 6 0 [0] L st M) := zEv_step rfl
theorem e246_6 (ph : Bool) (d : Nat) (L st : List zV) (M : zM) : zEv ph d 246 6 L st M = zcont ph d 246 (zstep ph (zEm ph d) 60 9 0 [30, 25] L st M) := zEv_step rfl
theorem e246_9 (ph : Bool) (d : Nat) (L st : List zV) (M : zM) : zEv ph d 246 9 L st M = zcont ph d 246 (zstep ph (zEm ph d) 80 10 0 [] L st M) := zEv_step rfl
theorem m249 (ph : Bool) (d : Nat) (a x0 : Int) (M : zM) : zEm ph (d + 1) 249 [(30, a, x0)] M = zEv ph d 249 0 [(30, a, x0)] [] M := rfl
theorem e249_0 (ph : Bool) (d : Nat) (L st : List zV) (M : zM) : zEv ph d 249 0 L st M = zcont ph d 249 (zstep ph (zEm ph d) 4 1 0 [0] L st M) := zEv_step rfl
theorem e249_1 (ph : Bool) (d : Nat) (L st : List zV) (M : zM) : zEv ph d 249 1 L st M = zcont ph d 249 (zstep ph (zEm ph d) 0 2 0 [0] L st M) := zEv_step rfl
theorem e249_2 (ph : Bool) (d : Nat) (L st : List zV) (M : zM) : zEv ph d 249 2 L st M = zcont ph d 249 (zstep ph (zEm ph d) 65 5 0 [30, 0] L st M) := zEv_step rfl
theorem e249_5 (ph : Bool) (d : Nat) (L st : List zV) (M : zM) : zEv ph d 249 5 L st M = zcont ph d 249 (zstep ph (zEm ph d) 4 6 0 [0] L st M) := zEv_step rfl
theorem e249_6 (ph : Bool) (d : Nat) (L st : List zV) (M : zM) : zEv ph d 249 6 L st M = zcont ph d 249 (zstep ph (zEm ph d) 60 9 0 [30, 26] L st M) := zEv_step rfl
theorem e249_9 (ph : Bool) (d : Nat) (L st : List zV) (M : zM) : zEv ph d 249 9 L st M = zcont ph d 249 (zstep ph (zEm ph d) 80 10 0 [] L st M) := zEv_step rfl
theorem m261 (ph : Bool) (d : Nat) (a x0 : Int) (M : zM) : zEm ph (d + 1) 261 [(30, a, x0)] M = zEv ph d 261 0 [(30, a, x0)] [] M := rfl
theorem e261_0 (ph : Bool) (d : Nat) (L st : List zV) (M : zM) : zEv ph d 261 0 L st M = zcont ph d 261 (zstep ph (zEm ph d) 4 1 0 [0] L st M) := zEv_step rfl
theorem e261_1 (ph : Bool) (d : Nat) (L st : List zV) (M : zM) : zEv ph d 261 1 L st M = zcont ph d 261 (zstep ph (zEm ph d) 0 2 0 [0] L st M) := zEv_step rfl
theorem e261_2 (ph : Bool) (d : Nat) (L st : List zV) (M : zM) : zEv ph d 261 2 L st M = zcont ph d 261 (zstep ph (zEm ph d) 65 5 0 [30, 0] L st M) := zEv_step rfl
theorem e261_5 (ph : Bool) (d : Nat) (L st : List zV) (M : zM) : zEv ph d 261 5 L st M = zcont ph d 261 (zstep ph (zEm ph d) 4 6 0 [0] L st M) := zEv_step rfl
theorem e261_6 (ph : Bool) (d : Nat) (L st : List zV) (M : zM) : zEv ph d 261 6 L st M = zcont ph d 261 (zstep ph (zEm ph d) 60 9 0 [30, 36] L st M) := zEv_step rfl
theorem e261_9 (ph : Bool) (d : Nat) (L st : List zV) (M : zM) : zEv ph d 261 9 L st M = zcont ph d 261 (zstep ph (zEm ph d) 80 10 0 [] L st M) := zEv_step rfl
theorem m262 (ph : Bool) (d : Nat) (a x0 : Int) (M : zM) : zEm ph (d + 1) 262 [(30, a, x0)] M = zEv ph d 262 0 [(30, a, x0)] [] M := rfl
theorem e262_0 (ph : Bool) (d : Nat) (L st : List zV) (M : zM) : zEv ph d 262 0 L st M = zcont ph d 262 (zstep ph (zEm ph d) 4 1 0 [0] L st M) := zEv_step rfl
theorem e262_1 (ph : Bool) (d : Nat) (L st : List zV) (M : zM) : zEv ph d 262 1 L st M = zcont ph d 262 (zstep ph (zEm ph d) 0 2 0 [0] L st M) := zEv_step rfl
theorem e262_2 (ph : Bool) (d : Nat) (L st : List zV) (M : zM) : zEv ph d 262 2 L st M = zcont ph d 262 (zstep ph (zEm ph d) 65 5 0 [30, 0] L st M) := zEv_step rfl
theorem e262_5 (ph : Bool) (d : Nat) (L st : List zV) (M : zM) : zEv ph d 262 5 L st M = zcont ph d 262 (zstep ph (zEm ph d) 4 6 0 [0] L st M) := zEv_step rfl
theorem e262_6 (ph : Bool) (d : Nat) (L st : List zV) (M : zM) : zEv ph d 262 6 L st M = zcont ph d 262 (zstep ph (zEm ph d) 60 9 0 [30, 37] L st M) := zEv_step rfl
theorem e262_9 (ph : Bool) (d : Nat) (L st : List zV) (M : zM) : zEv ph d 262 9 L st M = zcont ph d 262 (zstep ph (zEm ph d) 80 10 0 [] L st M) := zEv_step rfl
theorem m285 (ph : Bool) (d : Nat) (a x0 p0 y0 : Int) (M : zM) : zEm ph (d + 1) 285 [(30, a, x0), (0, p0, y0)] M = zEv ph d 285 0 [(30, a, x0), (0, p0, y0)] [] M := rfl
theorem e285_0 (ph : Bool) (d : Nat) (L st : List zV) (M : zM) : zEv ph d 285 0 L st M = zcont ph d 285 (zstep ph (zEm ph d) 4 1 0 [0] L st M) := zEv_step rfl
theorem e285_1 (ph : Bool) (d : Nat) (L st : List zV) (M : zM) : zEv ph d 285 1 L st M = zcont ph d 285 (zstep ph (zEm ph d) 0 2 0 [0] L st M) := zEv_step rfl
theorem e285_2 (ph : Bool) (d : Nat) (L st : List zV) (M : zM) : zEv ph d 285 2 L st M = zcont ph d 285 (zstep ph (zEm ph d) 65 5 0 [30, 0] L st M) := zEv_step rfl
theorem e285_5 (ph : Bool) (d : Nat) (L st : List zV) (M : zM) : zEv ph d 285 5 L st M = zcont ph d 285 (zstep ph (zEm ph d) 4 6 0 [0] L st M) := zEv_step rfl
theorem e285_6 (ph : Bool) (d : Nat) (L st : List zV) (M : zM) : zEv ph d 285 6 L st M = zcont ph d 285 (zstep ph (zEm ph d) 60 9 0 [30, 44] L st M) := zEv_step rfl
theorem e285_9 (ph : Bool) (d : Nat) (L st : List zV) (M : zM) : zEv ph d 285 9 L st M = zcont ph d 285 (zstep ph (zEm ph d) 40 12 30 [] L st M) := zEv_step rfl
theorem e285_12 (ph : Bool) (d : Nat) (L st : List zV) (M : zM) : zEv ph d 285 12 L st M = zcont ph d 285 (zstep ph (zEm ph d) 2 13 0 [1] L st M) := zEv_step rfl
theorem e285_13 (ph : Bool) (d : Nat) (L st : List zV) (M : zM) : zEv ph d 285 13 L st M = zcont ph d 285 (zstep ph (zEm ph d) 0 14 0 [0] L st M) := zEv_step rfl
theorem e285_14 (ph : Bool) (d : Nat) (L st : List zV) (M : zM) : zEv ph d 285 14 L st M = zcont ph d 285 (zstep ph (zEm ph d) 0 15 0 [3] L st M) := zEv_step rfl
theorem e285_15 (ph : Bool) (d : Nat) (L st : List zV) (M : zM) : zEv ph d 285 15 L st M = zcont ph d 285 (zstep ph (zEm ph d) 70 18 168 [3, 1, -1] L st M) := zEv_step rfl
theorem e285_18 (ph : Bool) (d : Nat) (L st : List zV) (M : zM) : zEv ph d 285 18 L st M = zcont ph d 285 (zstep ph (zEm ph d) 40 21 30 [] L st M) := zEv_step rfl
theorem e285_21 (ph : Bool) (d : Nat) (L st : List zV) (M : zM) : zEv ph d 285 21 L st M = zcont ph d 285 (zstep ph (zEm ph d) 4 22 0 [0] L st M) := zEv_step rfl
theorem e285_22 (ph : Bool) (d : Nat) (L st : List zV) (M : zM) : zEv ph d 285 22 L st M = zcont ph d 285 (zstep ph (zEm ph d) 62 25 0 [30, 42, 20, 10, 4] L st M) := zEv_step rfl
theorem e285_25 (ph : Bool) (d : Nat) (L st : List zV) (M : zM) : zEv ph d 285 25 L st M = zcont ph d 285 (zstep ph (zEm ph d) 2 26 0 [1] L st M) := zEv_step rfl
theorem e285_26 (ph : Bool) (d : Nat) (L st : List zV) (M : zM) : zEv ph d 285 26 L st M = zcont ph d 285 (zstep ph (zEm ph d) 85 27 0 [] L st M) := zEv_step rfl
theorem e285_27 (ph : Bool) (d : Nat) (L st : List zV) (M : zM) : zEv ph d 285 27 L st M = zcont ph d 285 (zstep ph (zEm ph d) 52 30 31 [] L st M) := zEv_step rfl
theorem e285_30 (ph : Bool) (d : Nat) (L st : List zV) (M : zM) : zEv ph d 285 30 L st M = zcont ph d 285 (zstep ph (zEm ph d) 0 31 0 [-1] L st M) := zEv_step rfl
theorem e285_31 (ph : Bool) (d : Nat) (L st : List zV) (M : zM) : zEv ph d 285 31 L st M = zcont ph d 285 (zstep ph (zEm ph d) 80 32 0 [] L st M) := zEv_step rfl
theorem m255 (ph : Bool) (d : Nat) (a x0 p0 y0 : Int) (M : zM) : zEm ph (d + 1) 255 [(30, a, x0), (0, p0, y0)] M = zEv ph d 255 0 [(30, a, x0), (0, p0, y0)] [] M := rfl
theorem e255_0 (ph : Bool) (d : Nat) (L st : List zV) (M : zM) : zEv ph d 255 0 L st M = zcont ph d 255 (zstep ph (zEm ph d) 4 1 0 [0] L st M) := zEv_step rfl
theorem e255_1 (ph : Bool) (d : Nat) (L st : List zV) (M : zM) : zEv ph d 255 1 L st M = zcont ph d 255 (zstep ph (zEm ph d) 0 2 0 [0] L st M) := zEv_step rfl
theorem e255_2 (ph : Bool) (d : Nat) (L st : List zV) (M : zM) : zEv ph d 255 2 L st M = zcont ph d 255 (zstep ph (zEm ph d) 65 5 0 [30, 0] L st M) := zEv_step rfl
theorem e255_5 (ph : Bool) (d : Nat) (L st : List zV) (M : zM) : zEv ph d 255 5 L st M = zcont ph d 255 (zstep ph (zEm ph d) 2 6 0 [1] L st M) := zEv_step rfl
theorem e255_6 (ph : Bool) (d : Nat) (L st : List zV) (M : zM) : zEv ph d 255 6 L st M = zcont ph d 255 (zstep ph (zEm ph d) 0 7 0 [0] L st M) := zEv_step rfl
theorem e255_7 (ph : Bool) (d : Nat) (L st : List zV) (M : zM) : zEv ph d 255 7 L st M = zcont ph d 255 (zstep ph (zEm ph d) 4 8 0 [0] L st M) := zEv_step rfl
theorem e255_8 (ph : Bool) (d : Nat) (L st : List zV) (M : zM) : zEv ph d 255 8 L st M = zcont ph d 255 (zstep ph (zEm ph d) 60 11 0 [30, 29] L st M) := zEv_step rfl
theorem e255_11 (ph : Bool) (d : Nat) (L st : List zV) (M : zM) : zEv ph d 255 11 L st M = zcont ph d 255 (zstep ph (zEm ph d) 0 12 0 [1] L st M) := zEv_step rfl
theorem e255_12 (ph : Bool) (d : Nat) (L st : List zV) (M : zM) : zEv ph d 255 12 L st M = zcont ph d 255 (zstep ph (zEm ph d) 11 13 0 [] L st M) := zEv_step rfl
theorem e255_13 (ph : Bool) (d : Nat) (L st : List zV) (M : zM) : zEv ph d 255 13 L st M = zcont ph d 255 (zstep ph (zEm ph d) 70 16 168 [3, 1, -1] L st M) := zEv_step rfl
theorem e255_16 (ph : Bool) (d : Nat) (L st : List zV) (M : zM) : zEv ph d 255 16 L st M = zcont ph d 255 (zstep ph (zEm ph d) 40 19 28 [] L st M) := zEv_step rfl
theorem e255_19 (ph : Bool) (d : Nat) (L st : List zV) (M : zM) : zEv ph d 255 19 L st M = zcont ph d 255 (zstep ph (zEm ph d) 4 20 0 [0] L st M) := zEv_step rfl
theorem e255_20 (ph : Bool) (d : Nat) (L st : List zV) (M : zM) : zEv ph d 255 20 L st M = zcont ph d 255 (zstep ph (zEm ph d) 62 23 0 [30, 28, 13, 10, 10] L st M) := zEv_step rfl
theorem e255_23 (ph : Bool) (d : Nat) (L st : List zV) (M : zM) : zEv ph d 255 23 L st M = zcont ph d 255 (zstep ph (zEm ph d) 2 24 0 [1] L st M) := zEv_step rfl
theorem e255_24 (ph : Bool) (d : Nat) (L st : List zV) (M : zM) : zEv ph d 255 24 L st M = zcont ph d 255 (zstep ph (zEm ph d) 85 25 0 [] L st M) := zEv_step rfl
theorem e255_25 (ph : Bool) (d : Nat) (L st : List zV) (M : zM) : zEv ph d 255 25 L st M = zcont ph d 255 (zstep ph (zEm ph d) 52 28 29 [] L st M) := zEv_step rfl
theorem e255_28 (ph : Bool) (d : Nat) (L st : List zV) (M : zM) : zEv ph d 255 28 L st M = zcont ph d 255 (zstep ph (zEm ph d) 0 29 0 [-1] L st M) := zEv_step rfl
theorem e255_29 (ph : Bool) (d : Nat) (L st : List zV) (M : zM) : zEv ph d 255 29 L st M = zcont ph d 255 (zstep ph (zEm ph d) 80 30 0 [] L st M) := zEv_step rfl
theorem m258 (ph : Bool) (d : Nat) (a x0 p0 y0 : Int) (M : zM) : zEm ph (d + 1) 258 [(30, a, x0), (0, p0, y0)] M = zEv ph d 258 0 [(30, a, x0), (0, p0, y0)] [] M := rfl
theorem e258_0 (ph : Bool) (d : Nat) (L st : List zV) (M : zM) : zEv ph d 258 0 L st M = zcont ph d 258 (zstep ph (zEm ph d) 4 1 0 [0] L st M) := zEv_step rfl
theorem e258_1 (ph : Bool) (d : Nat) (L st : List zV) (M : zM) : zEv ph d 258 1 L st M = zcont ph d 258 (zstep ph (zEm ph d) 0 2 0 [0] L st M) := zEv_step rfl
theorem e258_2 (ph : Bool) (d : Nat) (L st : List zV) (M : zM) : zEv ph d 258 2 L st M = zcont ph d 258 (zstep ph (zEm ph d) 65 5 0 [30, 0] L st M) := zEv_step rfl
theorem e258_5 (ph : Bool) (d : Nat) (L st : List zV) (M : zM) : zEv ph d 258 5 L st M = zcont ph d 258 (zstep ph (zEm ph d) 2 6 0 [1] L st M) := zEv_step rfl
theorem e258_6 (ph : Bool) (d : Nat) (L st : List zV) (M : zM) : zEv ph d 258 6 L st M = zcont ph d 258 (zstep ph (zEm ph d) 0 7 0 [0] L st M) := zEv_step rfl
theorem e258_7 (ph : Bool) (d : Nat) (L st : List zV) (M : zM) : zEv ph d 258 7 L st M = zcont ph d 258 (zstep ph (zEm ph d) 4 8 0 [0] L st M) := zEv_step rfl
theorem e258_8 (ph : Bool) (d : Nat) (L st : List zV) (M : zM) : zEv ph d 258 8 L st M = zcont ph d 258 (zstep ph (zEm ph d) 60 11 0 [30, 33] L st M) := zEv_step rfl
theorem e258_11 (ph : Bool) (d : Nat) (L st : List zV) (M : zM) : zEv ph d 258 11 L st M = zcont ph d 258 (zstep ph (zEm ph d) 0 12 0 [1] L st M) := zEv_step rfl
theorem e258_12 (ph : Bool) (d : Nat) (L st : List zV) (M : zM) : zEv ph d 258 12 L st M = zcont ph d 258 (zstep ph (zEm ph d) 11 13 0 [] L st M) := zEv_step rfl
theorem e258_13 (ph : Bool) (d : Nat) (L st : List zV) (M : zM) : zEv ph d 258 13 L st M = zcont ph d 258 (zstep ph (zEm ph d) 70 16 168 [3, 1, -1] L st M) := zEv_step rfl
theorem e258_16 (ph : Bool) (d : Nat) (L st : List zV) (M : zM) : zEv ph d 258 16 L st M = zcont ph d 258 (zstep ph (zEm ph d) 40 19 28 [] L st M) := zEv_step rfl
theorem e258_19 (ph : Bool) (d : Nat) (L st : List zV) (M : zM) : zEv ph d 258 19 L st M = zcont ph d 258 (zstep ph (zEm ph d) 4 20 0 [0] L st M) := zEv_step rfl
theorem e258_20 (ph : Bool) (d : Nat) (L st : List zV) (M : zM) : zEv ph d 258 20 L st M = zcont ph d 258 (zstep ph (zEm ph d) 62 23 0 [30, 31, 15, 10, 5] L st M) := zEv_step rfl
theorem e258_23 (ph : Bool) (d : Nat) (L st : List zV) (M : zM) : zEv ph d 258 23 L st M = zcont ph d 258 (zstep ph (zEm ph d) 2 24 0 [1] L st M) := zEv_step rfl
theorem e258_24 (ph : Bool) (d : Nat) (L st : List zV) (M : zM) : zEv ph d 258 24 L st M = zcont ph d 258 (zstep ph (zEm ph d) 85 25 0 [] L st M) := zEv_step rfl
theorem e258_25 (ph : Bool) (d : Nat) (L st : List zV) (M : zM) : zEv ph d 258 25 L st M = zcont ph d 258 (zstep ph (zEm ph d) 52 28 29 [] L st M) := zEv_step rfl
theorem e258_28 (ph : Bool) (d : Nat) (L st : List zV) (M : zM) : zEv ph d 258 28 L st M = zcont ph d 258 (zstep ph (zEm ph d) 0 29 0 [-1] L st M) := zEv_step rfl
theorem e258_29 (ph : Bool) (d : Nat) (L st : List zV) (M : zM) : zEv ph d 258 29 L st M = zcont ph d 258 (zstep ph (zEm ph d) 80 30 0 [] L st M) := zEv_step rfl
theorem m320 (ph : Bool) (d : Nat) (p0 y0 : Int) (M : zM) : zEm ph (d + 1) 320 [(0, p0, y0)] M = zEv ph d 320 0 [(0, p0, y0)] [] M := rfl
theorem e320_0 (ph : Bool) (d : Nat) (L st : List zV) (M : zM) : zEv ph d 320 0 L st M = zcont ph d 320 (zstep ph (zEm ph d) 2 1 0 [0] L st M) := zEv_step rfl
theorem e320_1 (ph : Bool) (d : Nat) (L st : List zV) (M : zM) : zEv ph d 320 1 L st M = zcont ph d 320 (zstep ph (zEm ph d) 2 2 0 [0] L st M) := zEv_step rfl
theorem e320_2 (ph : Bool) (d : Nat) (L st : List zV) (M : zM) : zEv ph d 320 2 L st M = zcont ph d 320 (zstep ph (zEm ph d) 0 3 0 [1] L st M) := zEv_step rfl
theorem e320_3 (ph : Bool) (d : Nat) (L st : List zV) (M : zM) : zEv ph d 320 3 L st M = zcont ph d 320 (zstep ph (zEm ph d) 21 4 0 [] L st M) := zEv_step rfl
theorem e320_4 (ph : Bool) (d : Nat) (L st : List zV) (M : zM) : zEv ph d 320 4 L st M = zcont ph d 320 (zstep ph (zEm ph d) 0 7 0 [1431655765] L st M) := zEv_step rfl
theorem e320_7 (ph : Bool) (d : Nat) (L st : List zV) (M : zM) : zEv ph d 320 7 L st M = zcont ph d 320 (zstep ph (zEm ph d) 16 8 0 [] L st M) := zEv_step rfl
theorem e320_8 (ph : Bool) (d : Nat) (L st : List zV) (M : zM) : zEv ph d 320 8 L st M = zcont ph d 320 (zstep ph (zEm ph d) 11 9 0 [] L st M) := zEv_step rfl
theorem e320_9 (ph : Bool) (d : Nat) (L st : List zV) (M : zM) : zEv ph d 320 9 L st M = zcont ph d 320 (zstep ph (zEm ph d) 5 10 0 [0] L st M) := zEv_step rfl
theorem e320_10 (ph : Bool) (d : Nat) (L st : List zV) (M : zM) : zEv ph d 320 10 L st M = zcont ph d 320 (zstep ph (zEm ph d) 2 11 0 [0] L st M) := zEv_step rfl
theorem e320_11 (ph : Bool) (d : Nat) (L st : List zV) (M : zM) : zEv ph d 320 11 L st M = zcont ph d 320 (zstep ph (zEm ph d) 0 14 0 [858993459] L st M) := zEv_step rfl
theorem e320_14 (ph : Bool) (d : Nat) (L st : List zV) (M : zM) : zEv ph d 320 14 L st M = zcont ph d 320 (zstep ph (zEm ph d) 16 15 0 [] L st M) := zEv_step rfl
theorem e320_15 (ph : Bool) (d : Nat) (L st : List zV) (M : zM) : zEv ph d 320 15 L st M = zcont ph d 320 (zstep ph (zEm ph d) 2 16 0 [0] L st M) := zEv_step rfl
theorem e320_16 (ph : Bool) (d : Nat) (L st : List zV) (M : zM) : zEv ph d 320 16 L st M = zcont ph d 320 (zstep ph (zEm ph d) 0 17 0 [2] L st M) := zEv_step rfl
theorem e320_17 (ph : Bool) (d : Nat) (L st : List zV) (M : zM) : zEv ph d 320 17 L st M = zcont ph d 320 (zstep ph (zEm ph d) 21 18 0 [] L st M) := zEv_step rfl
theorem e320_18 (ph : Bool) (d : Nat) (L st : List zV) (M : zM) : zEv ph d 320 18 L st M = zcont ph d 320 (zstep ph (zEm ph d) 0 21 0 [858993459] L st M) := zEv_step rfl
theorem e320_21 (ph : Bool) (d : Nat) (L st : List zV) (M : zM) : zEv ph d 320 21 L st M = zcont ph d 320 (zstep ph (zEm ph d) 16 22 0 [] L st M) := zEv_step rfl
theorem e320_22 (ph : Bool) (d : Nat) (L st : List zV) (M : zM) : zEv ph d 320 22 L st M = zcont ph d 320 (zstep ph (zEm ph d) 10 23 0 [] L st M) := zEv_step rfl
theorem e320_23 (ph : Bool) (d : Nat) (L st : List zV) (M : zM) : zEv ph d 320 23 L st M = zcont ph d 320 (zstep ph (zEm ph d) 5 24 0 [0] L st M) := zEv_step rfl
theorem e320_24 (ph : Bool) (d : Nat) (L st : List zV) (M : zM) : zEv ph d 320 24 L st M = zcont ph d 320 (zstep ph (zEm ph d) 2 25 0 [0] L st M) := zEv_step rfl
theorem e320_25 (ph : Bool) (d : Nat) (L st : List zV) (M : zM) : zEv ph d 320 25 L st M = zcont ph d 320 (zstep ph (zEm ph d) 2 26 0 [0] L st M) := zEv_step rfl
theorem e320_26 (ph : Bool) (d : Nat) (L st : List zV) (M : zM) : zEv ph d 320 26 L st M = zcont ph d 320 (zstep ph (zEm ph d) 0 27 0 [4] L st M) := zEv_step rfl
theorem e320_27 (ph : Bool) (d : Nat) (L st : List zV) (M : zM) : zEv ph d 320 27 L st M = zcont ph d 320 (zstep ph (zEm ph d) 21 28 0 [] L st M) := zEv_step rfl
theorem e320_28 (ph : Bool) (d : Nat) (L st : List zV) (M : zM) : zEv ph d 320 28 L st M = zcont ph d 320 (zstep ph (zEm ph d) 10 29 0 [] L st M) := zEv_step rfl
theorem e320_29 (ph : Bool) (d : Nat) (L st : List zV) (M : zM) : zEv ph d 320 29 L st M = zcont ph d 320 (zstep ph (zEm ph d) 0 32 0 [252645135] L st M) := zEv_step rfl
theorem e320_32 (ph : Bool) (d : Nat) (L st : List zV) (M : zM) : zEv ph d 320 32 L st M = zcont ph d 320 (zstep ph (zEm ph d) 16 33 0 [] L st M) := zEv_step rfl
theorem e320_33 (ph : Bool) (d : Nat) (L st : List zV) (M : zM) : zEv ph d 320 33 L st M = zcont ph d 320 (zstep ph (zEm ph d) 5 34 0 [0] L st M) := zEv_step rfl
theorem e320_34 (ph : Bool) (d : Nat) (L st : List zV) (M : zM) : zEv ph d 320 34 L st M = zcont ph d 320 (zstep ph (zEm ph d) 2 35 0 [0] L st M) := zEv_step rfl
theorem e320_35 (ph : Bool) (d : Nat) (L st : List zV) (M : zM) : zEv ph d 320 35 L st M = zcont ph d 320 (zstep ph (zEm ph d) 2 36 0 [0] L st M) := zEv_step rfl
theorem e320_36 (ph : Bool) (d : Nat) (L st : List zV) (M : zM) : zEv ph d 320 36 L st M = zcont ph d 320 (zstep ph (zEm ph d) 0 38 0 [8] L st M) := zEv_step rfl
theorem e320_38 (ph : Bool) (d : Nat) (L st : List zV) (M : zM) : zEv ph d 320 38 L st M = zcont ph d 320 (zstep ph (zEm ph d) 21 39 0 [] L st M) := zEv_step rfl
theorem e320_39 (ph : Bool) (d : Nat) (L st : List zV) (M : zM) : zEv ph d 320 39 L st M = zcont ph d 320 (zstep ph (zEm ph d) 10 40 0 [] L st M) := zEv_step rfl
theorem e320_40 (ph : Bool) (d : Nat) (L st : List zV) (M : zM) : zEv ph d 320 40 L st M = zcont ph d 320 (zstep ph (zEm ph d) 5 41 0 [0] L st M) := zEv_step rfl
theorem e320_41 (ph : Bool) (d : Nat) (L st : List zV) (M : zM) : zEv ph d 320 41 L st M = zcont ph d 320 (zstep ph (zEm ph d) 2 42 0 [0] L st M) := zEv_step rfl
theorem e320_42 (ph : Bool) (d : Nat) (L st : List zV) (M : zM) : zEv ph d 320 42 L st M = zcont ph d 320 (zstep ph (zEm ph d) 2 43 0 [0] L st M) := zEv_step rfl
theorem e320_43 (ph : Bool) (d : Nat) (L st : List zV) (M : zM) : zEv ph d 320 43 L st M = zcont ph d 320 (zstep ph (zEm ph d) 0 45 0 [16] L st M) := zEv_step rfl
theorem e320_45 (ph : Bool) (d : Nat) (L st : List zV) (M : zM) : zEv ph d 320 45 L st M = zcont ph d 320 (zstep ph (zEm ph d) 21 46 0 [] L st M) := zEv_step rfl
theorem e320_46 (ph : Bool) (d : Nat) (L st : List zV) (M : zM) : zEv ph d 320 46 L st M = zcont ph d 320 (zstep ph (zEm ph d) 10 47 0 [] L st M) := zEv_step rfl
theorem e320_47 (ph : Bool) (d : Nat) (L st : List zV) (M : zM) : zEv ph d 320 47 L st M = zcont ph d 320 (zstep ph (zEm ph d) 5 48 0 [0] L st M) := zEv_step rfl
theorem e320_48 (ph : Bool) (d : Nat) (L st : List zV) (M : zM) : zEv ph d 320 48 L st M = zcont ph d 320 (zstep ph (zEm ph d) 2 49 0 [0] L st M) := zEv_step rfl
theorem e320_49 (ph : Bool) (d : Nat) (L st : List zV) (M : zM) : zEv ph d 320 49 L st M = zcont ph d 320 (zstep ph (zEm ph d) 0 51 0 [63] L st M) := zEv_step rfl
theorem e320_51 (ph : Bool) (d : Nat) (L st : List zV) (M : zM) : zEv ph d 320 51 L st M = zcont ph d 320 (zstep ph (zEm ph d) 16 52 0 [] L st M) := zEv_step rfl
theorem e320_52 (ph : Bool) (d : Nat) (L st : List zV) (M : zM) : zEv ph d 320 52 L st M = zcont ph d 320 (zstep ph (zEm ph d) 80 53 0 [] L st M) := zEv_step rfl
theorem m170 (ph : Bool) (d : Nat) (p0 y0 : Int) (M : zM) : zEm ph (d + 1) 170 [(0, p0, y0)] M = zEv ph d 170 0 [(0, p0, y0), (3, 0, 0), (3, 0, 0)] [] M := rfl
theorem e170_0 (ph : Bool) (d : Nat) (L st : List zV) (M : zM) : zEv ph d 170 0 L st M = zcont ph d 170 (zstep ph (zEm ph d) 0 1 0 [0] L st M) := zEv_step rfl
theorem e170_1 (ph : Bool) (d : Nat) (L st : List zV) (M : zM) : zEv ph d 170 1 L st M = zcont ph d 170 (zstep ph (zEm ph d) 5 2 0 [1] L st M) := zEv_step rfl
theorem e170_2 (ph : Bool) (d : Nat) (L st : List zV) (M : zM) : zEv ph d 170 2 L st M = zcont ph d 170 (zstep ph (zEm ph d) 2 3 0 [0] L st M) := zEv_step rfl
theorem e170_3 (ph : Bool) (d : Nat) (L st : List zV) (M : zM) : zEv ph d 170 3 L st M = zcont ph d 170 (zstep ph (zEm ph d) 5 4 0 [2] L st M) := zEv_step rfl
theorem e170_4 (ph : Bool) (d : Nat) (L st : List zV) (M : zM) : zEv ph d 170 4 L st M = zcont ph d 170 (zstep ph (zEm ph d) 2 5 0 [2] L st M) := zEv_step rfl
theorem e170_5 (ph : Bool) (d : Nat) (L st : List zV) (M : zM) : zEv ph d 170 5 L st M = zcont ph d 170 (zstep ph (zEm ph d) 40 8 20 [] L st M) := zEv_step rfl
theorem e170_8 (ph : Bool) (d : Nat) (L st : List zV) (M : zM) : zEv ph d 170 8 L st M = zcont ph d 170 (zstep ph (zEm ph d) 8 11 0 [1, 1] L st M) := zEv_step rfl
theorem e170_11 (ph : Bool) (d : Nat) (L st : List zV) (M : zM) : zEv ph d 170 11 L st M = zcont ph d 170 (zstep ph (zEm ph d) 2 12 0 [2] L st M) := zEv_step rfl
theorem e170_12 (ph : Bool) (d : Nat) (L st : List zV) (M : zM) : zEv ph d 170 12 L st M = zcont ph d 170 (zstep ph (zEm ph d) 2 13 0 [2] L st M) := zEv_step rfl
theorem e170_13 (ph : Bool) (d : Nat) (L st : List zV) (M : zM) : zEv ph d 170 13 L st M = zcont ph d 170 (zstep ph (zEm ph d) 0 14 0 [1] L st M) := zEv_step rfl
theorem e170_14 (ph : Bool) (d : Nat) (L st : List zV) (M : zM) : zEv ph d 170 14 L st M = zcont ph d 170 (zstep ph (zEm ph d) 11 15 0 [] L st M) := zEv_step rfl
theorem e170_15 (ph : Bool) (d : Nat) (L st : List zV) (M : zM) : zEv ph d 170 15 L st M = zcont ph d 170 (zstep ph (zEm ph d) 16 16 0 [] L st M) := zEv_step rfl
theorem e170_16 (ph : Bool) (d : Nat) (L st : List zV) (M : zM) : zEv ph d 170 16 L st M = zcont ph d 170 (zstep ph (zEm ph d) 5 17 0 [2] L st M) := zEv_step rfl
theorem e170_17 (ph : Bool) (d : Nat) (L st : List zV) (M : zM) : zEv ph d 170 17 L st M = zcont ph d 170 (zstep ph (zEm ph d) 52 20 4 [] L st M) := zEv_step rfl
theorem e170_20 (ph : Bool) (d : Nat) (L st : List zV) (M : zM) : zEv ph d 170 20 L st M = zcont ph d 170 (zstep ph (zEm ph d) 2 21 0 [1] L st M) := zEv_step rfl
theorem e170_21 (ph : Bool) (d : Nat) (L st : List zV) (M : zM) : zEv ph d 170 21 L st M = zcont ph d 170 (zstep ph (zEm ph d) 80 22 0 [] L st M) := zEv_step rfl
theorem pair_fault (d : Nat) (x0 z0 : Int) (M : zM) (hH : relH M) : zPairQ M (zEm true (d + 8) 4 [(29, 0, x0)] M) (fun M1 => zEm true (d + 8) 204 [(30, 197, z0)] M1) := by
  have h1 := hH.1
  exact ⟨M 51 0, by simp (disch := first | assumption | exact zrm0 | exact zrm1 _ | exact zrm2 _ _ | exact zrm3 _ _ _ | exact zrm4 _ _ _ _ | omega) only [m4, ↓k_dp, ↓k_dn, k_dp, k_dn, k_dT, k_dF, k_ip, k_in, if_true, if_false, ne_eq, not_true_eq_false, not_false_eq_true, Int.reduceAdd, zup_a, zup_e, zup_j, z32_id, k_al0, k_gR, k_gI, k_ri, e4_0, e4_1, e4_4, e4_7], by simp (disch := first | assumption | exact zrm0 | exact zrm1 _ | exact zrm2 _ _ | exact zrm3 _ _ _ | exact zrm4 _ _ _ _ | omega) only [m204, ↓k_dp, ↓k_dn, k_dp, k_dn, k_dT, k_dF, k_ip, k_in, if_true, if_false, ne_eq, not_true_eq_false, not_false_eq_true, Int.reduceAdd, zup_a, zup_e, zup_j, z32_id, k_al0, k_ic, k_pI, k_gI, k_ri, e204_0, e204_1, e204_2, e204_5, e204_6, e204_9, h1]⟩
theorem pair_won (d : Nat) (x0 z0 : Int) (M : zM) (hH : relH M) : zPairQ M (zEm true (d + 8) 23 [(29, 0, x0)] M) (fun M1 => zEm true (d + 8) 246 [(30, 197, z0)] M1) := by
  have h1 := hH.2.1
  exact ⟨M 51 1, by simp (disch := first | assumption | exact zrm0 | exact zrm1 _ | exact zrm2 _ _ | exact zrm3 _ _ _ | exact zrm4 _ _ _ _ | omega) only [m23, ↓k_dp, ↓k_dn, k_dp, k_dn, k_dT, k_dF, k_ip, k_in, if_true, if_false, ne_eq, not_true_eq_false, not_false_eq_true, Int.reduceAdd, zup_a, zup_e, zup_j, z32_id, k_al0, k_gR, k_gI, k_ri, e23_0, e23_1, e23_4, e23_7], by simp (disch := first | assumption | exact zrm0 | exact zrm1 _ | exact zrm2 _ _ | exact zrm3 _ _ _ | exact zrm4 _ _ _ _ | omega) only [m246, ↓k_dp, ↓k_dn, k_dp, k_dn, k_dT, k_dF, k_ip, k_in, if_true, if_false, ne_eq, not_true_eq_false, not_false_eq_true, Int.reduceAdd, zup_a, zup_e, zup_j, z32_id, k_al0, k_ic, k_pI, k_gI, k_ri, e246_0, e246_1, e246_2, e246_5, e246_6, e246_9, h1]⟩
theorem pair_wonStreets (d : Nat) (x0 z0 : Int) (M : zM) (hH : relH M) : zPairQ M (zEm true (d + 8) 25 [(29, 0, x0)] M) (fun M1 => zEm true (d + 8) 249 [(30, 197, z0)] M1) := by
  have h1 := hH.2.2.1
  exact ⟨M 51 2, by simp (disch := first | assumption | exact zrm0 | exact zrm1 _ | exact zrm2 _ _ | exact zrm3 _ _ _ | exact zrm4 _ _ _ _ | omega) only [m25, ↓k_dp, ↓k_dn, k_dp, k_dn, k_dT, k_dF, k_ip, k_in, if_true, if_false, ne_eq, not_true_eq_false, not_false_eq_true, Int.reduceAdd, zup_a, zup_e, zup_j, z32_id, k_al0, k_gR, k_gI, k_ri, e25_0, e25_1, e25_4, e25_7], by simp (disch := first | assumption | exact zrm0 | exact zrm1 _ | exact zrm2 _ _ | exact zrm3 _ _ _ | exact zrm4 _ _ _ _ | omega) only [m249, ↓k_dp, ↓k_dn, k_dp, k_dn, k_dT, k_dF, k_ip, k_in, if_true, if_false, ne_eq, not_true_eq_false, not_false_eq_true, Int.reduceAdd, zup_a, zup_e, zup_j, z32_id, k_al0, k_ic, k_pI, k_gI, k_ri, e249_0, e249_1, e249_2, e249_5, e249_6, e249_9, h1]⟩
theorem pair_surely (d : Nat) (x0 z0 : Int) (M : zM) (hH : relH M) : zPairQ M (zEm true (d + 8) 33 [(29, 0, x0)] M) (fun M1 => zEm true (d + 8) 261 [(30, 197, z0)] M1) := by
  obtain ⟨-, -, -, -, -, h1, h2, -⟩ := hH
  exact ⟨M 51 7, by simp (disch := first | assumption | exact zrm0 | exact zrm1 _ | exact zrm2 _ _ | exact zrm3 _ _ _ | exact zrm4 _ _ _ _ | omega) only [m33, ↓k_dp, ↓k_dn, k_dp, k_dn, k_dT, k_dF, k_ip, k_in, if_true, if_false, ne_eq, not_true_eq_false, not_false_eq_true, Int.reduceAdd, zup_a, zup_e, zup_j, z32_id, k_al0, k_gR, k_gI, k_ri, e33_0, e33_1, e33_4, e33_7], by simp (disch := first | assumption | exact zrm0 | exact zrm1 _ | exact zrm2 _ _ | exact zrm3 _ _ _ | exact zrm4 _ _ _ _ | omega) only [m261, ↓k_dp, ↓k_dn, k_dp, k_dn, k_dT, k_dF, k_ip, k_in, if_true, if_false, ne_eq, not_true_eq_false, not_false_eq_true, Int.reduceAdd, zup_a, zup_e, zup_j, z32_id, k_al0, k_ic, k_pI, k_gI, k_ri, e261_0, e261_1, e261_2, e261_5, e261_6, e261_9, h1]⟩
theorem pair_ask (d : Nat) (x0 z0 : Int) (M : zM) (hH : relH M) : zPairQ M (zEm true (d + 8) 34 [(29, 0, x0)] M) (fun M1 => zEm true (d + 8) 262 [(30, 197, z0)] M1) := by
  obtain ⟨-, -, -, -, -, h1, h2, -⟩ := hH
  exact ⟨M 51 8, by simp (disch := first | assumption | exact zrm0 | exact zrm1 _ | exact zrm2 _ _ | exact zrm3 _ _ _ | exact zrm4 _ _ _ _ | omega) only [m34, ↓k_dp, ↓k_dn, k_dp, k_dn, k_dT, k_dF, k_ip, k_in, if_true, if_false, ne_eq, not_true_eq_false, not_false_eq_true, Int.reduceAdd, zup_a, zup_e, zup_j, z32_id, k_al0, k_gR, k_gI, k_ri, e34_0, e34_1, e34_4, e34_7], by simp (disch := first | assumption | exact zrm0 | exact zrm1 _ | exact zrm2 _ _ | exact zrm3 _ _ _ | exact zrm4 _ _ _ _ | omega) only [m262, ↓k_dp, ↓k_dn, k_dp, k_dn, k_dT, k_dF, k_ip, k_in, if_true, if_false, ne_eq, not_true_eq_false, not_false_eq_true, Int.reduceAdd, zup_a, zup_e, zup_j, z32_id, k_al0, k_ic, k_pI, k_gI, k_ri, e262_0, e262_1, e262_2, e262_5, e262_6, e262_9, h2]⟩
theorem pair_buys (d : Nat) (x0 z0 h y1 z1 : Int) (M : zM) (hH : relH M) : zPairQ M (zEm true (d + 8) 28 [(29, 0, x0), (0, h, y1)] M) (fun M1 => zEm true (d + 8) 255 [(30, 197, z0), (0, h, z1)] M1) := by
  obtain ⟨-, -, -, ⟨⟨a1, a2⟩, a3, a4⟩, -⟩ := hH
  by_cases c : 0 ≤ h ∧ h < M 51 4
  · have c2 : 0 ≤ h ∧ h ≤ M 51 4 - 1 := by omega
    exact ⟨M 52 h, by simp (disch := first | assumption | exact zrm0 | exact zrm1 _ | exact zrm2 _ _ | exact zrm3 _ _ _ | exact zrm4 _ _ _ _ | omega) only [m28, ↓k_dp, ↓k_dn, k_dp, k_dn, k_dT, k_dF, k_ip, k_in, if_true, if_false, ne_eq, not_true_eq_false, not_false_eq_true, Int.reduceAdd, zup_a, zup_e, zup_j, z32_id, k_il1, k_iflt, k_al0, k_gR, k_gI, k_iclt, k_ic, k_ri, k_ild, k_ildS, k_ildW, e28_0, e28_1, e28_4, e28_5, e28_6, e28_9, e28_12, e28_15, e28_16, e28_17, e28_18, e28_21, e28_24, e28_25, e28_26], by simp (disch := first | assumption | exact zrm0 | exact zrm1 _ | exact zrm2 _ _ | exact zrm3 _ _ _ | exact zrm4 _ _ _ _ | omega) only [m255, ↓k_dp, ↓k_dn, k_dp, k_dn, k_dT, k_dF, k_ip, k_in, if_true, if_false, ne_eq, not_true_eq_false, not_false_eq_true, Int.reduceAdd, zup_a, zup_e, zup_j, z32_id, k_al0, k_ic, k_pI, k_il1, k_gI, k_isub, k_s3r, k_ifeq, k_gR, k_ild, k_ildS, k_ildW, k_goto, k_ri, zb0_some, zb1_some, e255_0, e255_1, e255_2, e255_5, e255_6, e255_7, e255_8, e255_11, e255_12, e255_13, e255_16, e255_19, e255_20, e255_23, e255_24, e255_25, e255_28, e255_29, a3, r_isIn, if_pos c2, a4]⟩
  · have c2 : ¬ (0 ≤ h ∧ h ≤ M 51 4 - 1) := by omega
    refine ⟨-1, ?_, by simp (disch := first | assumption | exact zrm0 | exact zrm1 _ | exact zrm2 _ _ | exact zrm3 _ _ _ | exact zrm4 _ _ _ _ | omega) only [m255, ↓k_dp, ↓k_dn, k_dp, k_dn, k_dT, k_dF, k_ip, k_in, if_true, if_false, ne_eq, not_true_eq_false, not_false_eq_true, Int.reduceAdd, zup_a, zup_e, zup_j, z32_id, k_al0, k_ic, k_pI, k_il1, k_gI, k_isub, k_s3r, k_ifeq, k_gR, k_ild, k_ildS, k_ildW, k_goto, k_ri, zb0_some, zb1_some, e255_0, e255_1, e255_2, e255_5, e255_6, e255_7, e255_8, e255_11, e255_12, e255_13, e255_16, e255_19, e255_20, e255_23, e255_24, e255_25, e255_28, e255_29, a3, r_isIn, if_neg c2]⟩
    simp (disch := first | assumption | exact zrm0 | exact zrm1 _ | exact zrm2 _ _ | exact zrm3 _ _ _ | exact zrm4 _ _ _ _ | omega) only [m28, ↓k_dp, ↓k_dn, k_dp, k_dn, k_dT, k_dF, k_ip, k_in, if_true, if_false, ne_eq, not_true_eq_false, not_false_eq_true, Int.reduceAdd, zup_a, zup_e, zup_j, z32_id, k_il1, k_iflt, k_al0, k_gR, k_gI, k_iclt, k_ic, k_ri, k_ild, k_ildS, k_ildW, e28_0, e28_1, e28_4, e28_5, e28_6, e28_9, e28_12, e28_15, e28_16, e28_17, e28_18, e28_21, e28_24, e28_25, e28_26]
    all_goals (split <;> rfl)
theorem pair_agendaAt (d : Nat) (x0 z0 h y1 z1 : Int) (M : zM) (hH : relH M) : zPairQ M (zEm true (d + 8) 30 [(29, 0, x0), (0, h, y1)] M) (fun M1 => zEm true (d + 8) 258 [(30, 197, z0), (0, h, z1)] M1) := by
  obtain ⟨-, -, -, -, ⟨⟨a1, a2⟩, a3, a4⟩, -⟩ := hH
  by_cases c : 0 ≤ h ∧ h < M 51 6
  · have c2 : 0 ≤ h ∧ h ≤ M 51 6 - 1 := by omega
    exact ⟨M 53 h, by simp (disch := first | assumption | exact zrm0 | exact zrm1 _ | exact zrm2 _ _ | exact zrm3 _ _ _ | exact zrm4 _ _ _ _ | omega) only [m30, ↓k_dp, ↓k_dn, k_dp, k_dn, k_dT, k_dF, k_ip, k_in, if_true, if_false, ne_eq, not_true_eq_false, not_false_eq_true, Int.reduceAdd, zup_a, zup_e, zup_j, z32_id, k_il1, k_iflt, k_al0, k_gR, k_gI, k_iclt, k_ic, k_ri, k_ild, k_ildS, k_ildW, e30_0, e30_1, e30_4, e30_5, e30_6, e30_9, e30_12, e30_15, e30_16, e30_17, e30_18, e30_21, e30_24, e30_25, e30_26], by simp (disch := first | assumption | exact zrm0 | exact zrm1 _ | exact zrm2 _ _ | exact zrm3 _ _ _ | exact zrm4 _ _ _ _ | omega) only [m258, ↓k_dp, ↓k_dn, k_dp, k_dn, k_dT, k_dF, k_ip, k_in, if_true, if_false, ne_eq, not_true_eq_false, not_false_eq_true, Int.reduceAdd, zup_a, zup_e, zup_j, z32_id, k_al0, k_ic, k_pI, k_il1, k_gI, k_isub, k_s3r, k_ifeq, k_gR, k_ild, k_ildS, k_ildW, k_goto, k_ri, zb0_some, zb1_some, e258_0, e258_1, e258_2, e258_5, e258_6, e258_7, e258_8, e258_11, e258_12, e258_13, e258_16, e258_19, e258_20, e258_23, e258_24, e258_25, e258_28, e258_29, a3, r_isIn, if_pos c2, a4]⟩
  · have c2 : ¬ (0 ≤ h ∧ h ≤ M 51 6 - 1) := by omega
    refine ⟨-1, ?_, by simp (disch := first | assumption | exact zrm0 | exact zrm1 _ | exact zrm2 _ _ | exact zrm3 _ _ _ | exact zrm4 _ _ _ _ | omega) only [m258, ↓k_dp, ↓k_dn, k_dp, k_dn, k_dT, k_dF, k_ip, k_in, if_true, if_false, ne_eq, not_true_eq_false, not_false_eq_true, Int.reduceAdd, zup_a, zup_e, zup_j, z32_id, k_al0, k_ic, k_pI, k_il1, k_gI, k_isub, k_s3r, k_ifeq, k_gR, k_ild, k_ildS, k_ildW, k_goto, k_ri, zb0_some, zb1_some, e258_0, e258_1, e258_2, e258_5, e258_6, e258_7, e258_8, e258_11, e258_12, e258_13, e258_16, e258_19, e258_20, e258_23, e258_24, e258_25, e258_28, e258_29, a3, r_isIn, if_neg c2]⟩
    simp (disch := first | assumption | exact zrm0 | exact zrm1 _ | exact zrm2 _ _ | exact zrm3 _ _ _ | exact zrm4 _ _ _ _ | omega) only [m30, ↓k_dp, ↓k_dn, k_dp, k_dn, k_dT, k_dF, k_ip, k_in, if_true, if_false, ne_eq, not_true_eq_false, not_false_eq_true, Int.reduceAdd, zup_a, zup_e, zup_j, z32_id, k_il1, k_iflt, k_al0, k_gR, k_gI, k_iclt, k_ic, k_ri, k_ild, k_ildS, k_ildW, e30_0, e30_1, e30_4, e30_5, e30_6, e30_9, e30_12, e30_15, e30_16, e30_17, e30_18, e30_21, e30_24, e30_25, e30_26]
    all_goals (split <;> rfl)
theorem pair_told (d : Nat) (x0 z0 w y1 z1 : Int) (M : zM) (hH : relH M) : zPairQ M (zEm true (d + 8) 40 [(29, 0, x0), (0, w, y1)] M) (fun M1 => zEm true (d + 8) 285 [(30, 197, z0), (0, w, z1)] M1) := by
  obtain ⟨-, -, -, -, -, -, -, ⟨a1, a2, a3⟩⟩ := hH
  by_cases c : M 51 10 = 0
  · exact ⟨-1, by simp (disch := first | assumption | exact zrm0 | exact zrm1 _ | exact zrm2 _ _ | exact zrm3 _ _ _ | exact zrm4 _ _ _ _ | omega) only [m40, ↓k_dp, ↓k_dn, k_dp, k_dn, k_dT, k_dF, k_ip, k_in, if_true, if_false, ne_eq, not_true_eq_false, not_false_eq_true, Int.reduceAdd, zup_a, zup_e, zup_j, z32_id, k_al0, k_gR, k_gI, k_ifne, k_ic, k_ri, k_il1, e40_0, e40_1, e40_4, e40_7, e40_10, e40_11, e40_12, e40_13, e40_44, e40_45, e40_48, e40_51, e40_52, e40_53, e40_56, e40_59, e40_60, e40_61, e40_64, e40_67, e40_68, e40_69, e40_72, e40_75, e40_76, e40_77, c], by simp (disch := first | assumption | exact zrm0 | exact zrm1 _ | exact zrm2 _ _ | exact zrm3 _ _ _ | exact zrm4 _ _ _ _ | omega) only [m285, ↓k_dp, ↓k_dn, k_dp, k_dn, k_dT, k_dF, k_ip, k_in, if_true, if_false, ne_eq, not_true_eq_false, not_false_eq_true, Int.reduceAdd, zup_a, zup_e, zup_j, z32_id, k_al0, k_ic, k_pI, k_gI, k_ifeq, k_il1, k_s3r, k_gR, k_ild, k_ildS, k_ildW, k_goto, k_ri, zb0_some, zb1_some, e285_0, e285_1, e285_2, e285_5, e285_6, e285_9, e285_12, e285_13, e285_14, e285_15, e285_18, e285_21, e285_22, e285_25, e285_26, e285_27, e285_30, e285_31, a2, c]⟩
  · have c1 : M 51 10 = 1 := by omega
    obtain ⟨b0, b1, b2, b3⟩ := a3 c1
    have hw : ∀ k : Int, 0 ≤ k → k ≤ 3 → (if 0 ≤ k ∧ k ≤ 3 then (1 : Int) else 0) = 1 := fun k h0 h1 => if_pos ⟨h0, h1⟩
    by_cases w0 : w = 0
    · exact ⟨M 51 11, by simp (disch := first | assumption | exact zrm0 | exact zrm1 _ | exact zrm2 _ _ | exact zrm3 _ _ _ | exact zrm4 _ _ _ _ | omega) only [m40, ↓k_dp, ↓k_dn, k_dp, k_dn, k_dT, k_dF, k_ip, k_in, if_true, if_false, ne_eq, not_true_eq_false, not_false_eq_true, Int.reduceAdd, zup_a, zup_e, zup_j, z32_id, k_al0, k_gR, k_gI, k_ifne, k_ic, k_ri, k_il1, e40_0, e40_1, e40_4, e40_7, e40_10, e40_11, e40_12, e40_13, e40_44, e40_45, e40_48, e40_51, e40_52, e40_53, e40_56, e40_59, e40_60, e40_61, e40_64, e40_67, e40_68, e40_69, e40_72, e40_75, e40_76, e40_77, c1], by simp (disch := first | assumption | exact zrm0 | exact zrm1 _ | exact zrm2 _ _ | exact zrm3 _ _ _ | exact zrm4 _ _ _ _ | omega) only [m285, ↓k_dp, ↓k_dn, k_dp, k_dn, k_dT, k_dF, k_ip, k_in, if_true, if_false, ne_eq, not_true_eq_false, not_false_eq_true, Int.reduceAdd, zup_a, zup_e, zup_j, z32_id, k_al0, k_ic, k_pI, k_gI, k_ifeq, k_il1, k_s3r, k_gR, k_ild, k_ildS, k_ildW, k_goto, k_ri, zb0_some, zb1_some, e285_0, e285_1, e285_2, e285_5, e285_6, e285_9, e285_12, e285_13, e285_14, e285_15, e285_18, e285_21, e285_22, e285_25, e285_26, e285_27, e285_30, e285_31, a2, c1, r_isIn, hw, w0, b0]⟩
    by_cases w1 : w = 1
    · exact ⟨M 51 12, by simp (disch := first | assumption | exact zrm0 | exact zrm1 _ | exact zrm2 _ _ | exact zrm3 _ _ _ | exact zrm4 _ _ _ _ | omega) only [m40, ↓k_dp, ↓k_dn, k_dp, k_dn, k_dT, k_dF, k_ip, k_in, if_true, if_false, ne_eq, not_true_eq_false, not_false_eq_true, Int.reduceAdd, zup_a, zup_e, zup_j, z32_id, k_al0, k_gR, k_gI, k_ifne, k_ic, k_ri, k_il1, e40_0, e40_1, e40_4, e40_7, e40_10, e40_11, e40_12, e40_13, e40_44, e40_45, e40_48, e40_51, e40_52, e40_53, e40_56, e40_59, e40_60, e40_61, e40_64, e40_67, e40_68, e40_69, e40_72, e40_75, e40_76, e40_77, c1], by simp (disch := first | assumption | exact zrm0 | exact zrm1 _ | exact zrm2 _ _ | exact zrm3 _ _ _ | exact zrm4 _ _ _ _ | omega) only [m285, ↓k_dp, ↓k_dn, k_dp, k_dn, k_dT, k_dF, k_ip, k_in, if_true, if_false, ne_eq, not_true_eq_false, not_false_eq_true, Int.reduceAdd, zup_a, zup_e, zup_j, z32_id, k_al0, k_ic, k_pI, k_gI, k_ifeq, k_il1, k_s3r, k_gR, k_ild, k_ildS, k_ildW, k_goto, k_ri, zb0_some, zb1_some, e285_0, e285_1, e285_2, e285_5, e285_6, e285_9, e285_12, e285_13, e285_14, e285_15, e285_18, e285_21, e285_22, e285_25, e285_26, e285_27, e285_30, e285_31, a2, c1, r_isIn, hw, w1, b1]⟩
    by_cases w2 : w = 2
    · exact ⟨M 51 13, by simp (disch := first | assumption | exact zrm0 | exact zrm1 _ | exact zrm2 _ _ | exact zrm3 _ _ _ | exact zrm4 _ _ _ _ | omega) only [m40, ↓k_dp, ↓k_dn, k_dp, k_dn, k_dT, k_dF, k_ip, k_in, if_true, if_false, ne_eq, not_true_eq_false, not_false_eq_true, Int.reduceAdd, zup_a, zup_e, zup_j, z32_id, k_al0, k_gR, k_gI, k_ifne, k_ic, k_ri, k_il1, e40_0, e40_1, e40_4, e40_7, e40_10, e40_11, e40_12, e40_13, e40_44, e40_45, e40_48, e40_51, e40_52, e40_53, e40_56, e40_59, e40_60, e40_61, e40_64, e40_67, e40_68, e40_69, e40_72, e40_75, e40_76, e40_77, c1], by simp (disch := first | assumption | exact zrm0 | exact zrm1 _ | exact zrm2 _ _ | exact zrm3 _ _ _ | exact zrm4 _ _ _ _ | omega) only [m285, ↓k_dp, ↓k_dn, k_dp, k_dn, k_dT, k_dF, k_ip, k_in, if_true, if_false, ne_eq, not_true_eq_false, not_false_eq_true, Int.reduceAdd, zup_a, zup_e, zup_j, z32_id, k_al0, k_ic, k_pI, k_gI, k_ifeq, k_il1, k_s3r, k_gR, k_ild, k_ildS, k_ildW, k_goto, k_ri, zb0_some, zb1_some, e285_0, e285_1, e285_2, e285_5, e285_6, e285_9, e285_12, e285_13, e285_14, e285_15, e285_18, e285_21, e285_22, e285_25, e285_26, e285_27, e285_30, e285_31, a2, c1, r_isIn, hw, w2, b2]⟩
    by_cases w3 : w = 3
    · exact ⟨M 51 14, by simp (disch := first | assumption | exact zrm0 | exact zrm1 _ | exact zrm2 _ _ | exact zrm3 _ _ _ | exact zrm4 _ _ _ _ | omega) only [m40, ↓k_dp, ↓k_dn, k_dp, k_dn, k_dT, k_dF, k_ip, k_in, if_true, if_false, ne_eq, not_true_eq_false, not_false_eq_true, Int.reduceAdd, zup_a, zup_e, zup_j, z32_id, k_al0, k_gR, k_gI, k_ifne, k_ic, k_ri, k_il1, e40_0, e40_1, e40_4, e40_7, e40_10, e40_11, e40_12, e40_13, e40_44, e40_45, e40_48, e40_51, e40_52, e40_53, e40_56, e40_59, e40_60, e40_61, e40_64, e40_67, e40_68, e40_69, e40_72, e40_75, e40_76, e40_77, c1], by simp (disch := first | assumption | exact zrm0 | exact zrm1 _ | exact zrm2 _ _ | exact zrm3 _ _ _ | exact zrm4 _ _ _ _ | omega) only [m285, ↓k_dp, ↓k_dn, k_dp, k_dn, k_dT, k_dF, k_ip, k_in, if_true, if_false, ne_eq, not_true_eq_false, not_false_eq_true, Int.reduceAdd, zup_a, zup_e, zup_j, z32_id, k_al0, k_ic, k_pI, k_gI, k_ifeq, k_il1, k_s3r, k_gR, k_ild, k_ildS, k_ildW, k_goto, k_ri, zb0_some, zb1_some, e285_0, e285_1, e285_2, e285_5, e285_6, e285_9, e285_12, e285_13, e285_14, e285_15, e285_18, e285_21, e285_22, e285_25, e285_26, e285_27, e285_30, e285_31, a2, c1, r_isIn, hw, w3, b3]⟩
    · have c2 : ¬ (0 ≤ w ∧ w ≤ 3) := by omega
      exact ⟨-1, by simp (disch := first | assumption | exact zrm0 | exact zrm1 _ | exact zrm2 _ _ | exact zrm3 _ _ _ | exact zrm4 _ _ _ _ | omega) only [m40, ↓k_dp, ↓k_dn, k_dp, k_dn, k_dT, k_dF, k_ip, k_in, if_true, if_false, ne_eq, not_true_eq_false, not_false_eq_true, Int.reduceAdd, zup_a, zup_e, zup_j, z32_id, k_al0, k_gR, k_gI, k_ifne, k_ic, k_ri, k_il1, e40_0, e40_1, e40_4, e40_7, e40_10, e40_11, e40_12, e40_13, e40_44, e40_45, e40_48, e40_51, e40_52, e40_53, e40_56, e40_59, e40_60, e40_61, e40_64, e40_67, e40_68, e40_69, e40_72, e40_75, e40_76, e40_77, c1], by simp (disch := first | assumption | exact zrm0 | exact zrm1 _ | exact zrm2 _ _ | exact zrm3 _ _ _ | exact zrm4 _ _ _ _ | omega) only [m285, ↓k_dp, ↓k_dn, k_dp, k_dn, k_dT, k_dF, k_ip, k_in, if_true, if_false, ne_eq, not_true_eq_false, not_false_eq_true, Int.reduceAdd, zup_a, zup_e, zup_j, z32_id, k_al0, k_ic, k_pI, k_gI, k_ifeq, k_il1, k_s3r, k_gR, k_ild, k_ildS, k_ildW, k_goto, k_ri, zb0_some, zb1_some, e285_0, e285_1, e285_2, e285_5, e285_6, e285_9, e285_12, e285_13, e285_14, e285_15, e285_18, e285_21, e285_22, e285_25, e285_26, e285_27, e285_30, e285_31, a2, c1, r_isIn, if_neg c2]⟩
/-- bits of a set, by the machine's own way -/
def sBC (s : Int) : Int :=
  let i := z32 (s - zand (zush s 1) 1431655765)
  let i := z32 (zand i 858993459 + zand (zush i 2) 858993459)
  let i := zand (z32 (i + zush i 4)) 252645135
  let i := z32 (i + zush i 8)
  let i := z32 (i + zush i 16)
  zand i 63
def kB : Nat → Int → Int
  | 0, _ => 0
  | n + 1, s => if s = 0 then 0 else 1 + kB n (zand s (z32 (s - 1)))
def kE : Nat → Int → Bool
  | 0, s => decide (s = 0)
  | n + 1, s => if s = 0 then true else kE n (zand s (z32 (s - 1)))
set_option maxRecDepth 20000 in
theorem sBC_all : ((List.range 1024).all fun s => kE 10 s && decide (sBC s = kB 10 s) && decide (0 ≤ kB 10 s) && decide (kB 10 s ≤ 10)) = true := by decide +kernel
theorem sBC_ok {s : Int} (h0 : 0 ≤ s) (h1 : s < 1024) : kE 10 s = true ∧ sBC s = kB 10 s ∧ 0 ≤ kB 10 s ∧ kB 10 s ≤ 10 := by
  obtain ⟨i, rfl⟩ := Int.eq_ofNat_of_zero_le h0
  have := List.all_eq_true.mp sBC_all i (List.mem_range.mpr (by omega))
  simp only [Bool.and_eq_true, decide_eq_true_eq] at this
  obtain ⟨⟨⟨a1, a2⟩, a3⟩, a4⟩ := this
  exact ⟨a1, a2, a3, a4⟩
theorem s_bitCount0 (ph : Bool) (d : Nat) (s y : Int) (M : zM) : zEm ph (d + 1) 320 [(0, s, y)] M = some ((0, sBC s, 0), M) := by
  unfold sBC
  simp only [m320, k_il0, k_ic, k_iushr, k_iand, k_isub, k_iadd, k_is0, k_ri, e320_0, e320_1, e320_2, e320_3, e320_4, e320_7, e320_8, e320_9, e320_10, e320_11, e320_14, e320_15, e320_16, e320_17, e320_18, e320_21, e320_22, e320_23, e320_24, e320_25, e320_26, e320_27, e320_28, e320_29, e320_32, e320_33, e320_34, e320_35, e320_36, e320_38, e320_39, e320_40, e320_41, e320_42, e320_43, e320_45, e320_46, e320_47, e320_48, e320_49, e320_51, e320_52]
theorem s_bitCount (ph : Bool) (d : Nat) (s y : Int) (M : zM) (h0 : 0 ≤ s) (h1 : s < 1024) : zEm ph (d + 1) 320 [(0, s, y)] M = some ((0, kB 10 s, 0), M) := by
  rw [s_bitCount0, (sBC_ok h0 h1).2.1]
theorem r_bits0 (d : Nat) (x y : Int) (M : zM) : ∀ (n : Nat) (s k : Int), kE n s = true → 0 ≤ k → k + n ≤ 100 → zEv true d 170 4 [(0, x, y), (0, k, 0), (0, s, 0)] [] M = some ((0, k + kB n s, 0), M)
  | 0, s, k, h, k0, k1 => by
    unfold kE at h
    have hs : s = 0 := of_decide_eq_true h
    subst hs
    unfold kB
    simp (disch := first | assumption | exact zrm0 | exact zrm1 _ | exact zrm2 _ _ | exact zrm3 _ _ _ | exact zrm4 _ _ _ _ | omega) only [m170, ↓k_dp, ↓k_dn, k_dp, k_dn, k_dT, k_dF, k_ip, k_in, if_true, if_false, ne_eq, not_true_eq_false, not_false_eq_true, Int.reduceAdd, zup_a, zup_e, zup_j, z32_id, k_ic, k_is1, k_il0, k_is2, k_il2, k_ifeq, k_inc1, k_isub, k_iand, k_goto, k_il1, k_ri, e170_0, e170_1, e170_2, e170_3, e170_4, e170_5, e170_8, e170_11, e170_12, e170_13, e170_14, e170_15, e170_16, e170_17, e170_20, e170_21, Int.add_zero]
  | n + 1, s, k, h, k0, k1 => by
    unfold kE at h
    unfold kB
    by_cases c : s = 0
    · subst c
      simp (disch := first | assumption | exact zrm0 | exact zrm1 _ | exact zrm2 _ _ | exact zrm3 _ _ _ | exact zrm4 _ _ _ _ | omega) only [m170, ↓k_dp, ↓k_dn, k_dp, k_dn, k_dT, k_dF, k_ip, k_in, if_true, if_false, ne_eq, not_true_eq_false, not_false_eq_true, Int.reduceAdd, zup_a, zup_e, zup_j, z32_id, k_ic, k_is1, k_il0, k_is2, k_il2, k_ifeq, k_inc1, k_isub, k_iand, k_goto, k_il1, k_ri, e170_0, e170_1, e170_2, e170_3, e170_4, e170_5, e170_8, e170_11, e170_12, e170_13, e170_14, e170_15, e170_16, e170_17, e170_20, e170_21, Int.add_zero]
    · rw [if_neg c] at h
      rw [if_neg c, e170_4]
      simp (disch := first | assumption | omega) only [k_il0, k_il1, k_il2, k_ifeq, ↓k_dp, ↓k_dn, k_inc1, k_ic, k_isub, k_iand, k_is2, k_goto, e170_5, e170_8, e170_11, e170_12, e170_13, e170_14, e170_15, e170_16, e170_17]
      rw [z32_id (x := k + 1) (by omega) (by omega), r_bits0 d x y M n _ (k + 1) h (by omega) (by omega), Int.add_assoc]
theorem r_bits (d : Nat) (s y : Int) (M : zM) (h0 : 0 ≤ s) (h1 : s < 1024) : zEm true (d + 1) 170 [(0, s, y)] M = some ((0, kB 10 s, 0), M) := by
  have := r_bits0 d s y M 10 s 0 (sBC_ok h0 h1).1 (Int.le_refl _) (by omega)
  rw [Int.zero_add] at this
  rw [← this]
  simp (disch := first | assumption | exact zrm0 | exact zrm1 _ | exact zrm2 _ _ | exact zrm3 _ _ _ | exact zrm4 _ _ _ _ | omega) only [m170, ↓k_dp, ↓k_dn, k_dp, k_dn, k_dT, k_dF, k_ip, k_in, if_true, if_false, ne_eq, not_true_eq_false, not_false_eq_true, Int.reduceAdd, zup_a, zup_e, zup_j, z32_id, k_ic, k_is1, k_il0, k_is2, k_il2, k_ifeq, k_inc1, k_isub, k_iand, k_goto, k_il1, k_ri, e170_0, e170_1, e170_2, e170_3, e170_5, e170_8, e170_11, e170_12, e170_13, e170_14, e170_15, e170_16, e170_17, e170_20, e170_21]
