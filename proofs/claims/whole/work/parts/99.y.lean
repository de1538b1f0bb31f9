/-! the reference's text -/
def rT (M M' : zM) (n : Int) (f : Int → Int) : Prop := M' 197 39 = M 197 39 + n ∧ (∀ i, 0 ≤ i → i < n → M' 215 (M 197 39 + i) = f i) ∧ ∀ x y, ¬ (x = 197 ∧ y = 39) → ¬ (x = 215 ∧ M 197 39 ≤ y ∧ y < M 197 39 + n) → M' x y = M x y
theorem rT_comp {M N P : zM} {n k : Int} {f g : Int → Int} (n0 : 0 ≤ n) (k0 : 0 ≤ k) (h1 : rT M N n f) (h2 : rT N P k g) : rT M P (n + k) (fun i => if i < n then f i else g (i - n)) := by
  obtain ⟨a1, a2, a3⟩ := h1
  obtain ⟨b1, b2, b3⟩ := h2
  refine ⟨by omega, fun i i0 i1 => ?_, fun x y h1 h2 => by rw [b3 x y h1 (by omega), a3 x y h1 (by omega)]⟩
  dsimp only
  by_cases c : i < n
  · rw [if_pos c, b3 _ _ (by omega) (by omega), a2 i i0 c]
  · rw [if_neg c, ← b2 (i - n) (by omega) (by omega), a1]
    congr 1
    omega
theorem rT_congr {M M' : zM} {n : Int} {f g : Int → Int} (h : rT M M' n f) (e : ∀ i, 0 ≤ i → i < n → f i = g i) : rT M M' n g := by
  obtain ⟨a1, a2, a3⟩ := h
  exact ⟨a1, fun i i0 i1 => (a2 i i0 i1).trans (e i i0 i1), a3⟩
theorem m263 (ph : Bool) (d : Nat) (a x0 p0 y0 : Int) (M : zM) : zEm ph (d + 1) 263 [(30, a, x0), (0, p0, y0)] M = zEv ph d 263 0 [(30, a, x0), (0, p0, y0)] [] M := rfl
theorem e263_0 (ph : Bool) (d : Nat) (L st : List zV) (M : zM) : zEv ph d 263 0 L st M = zcont ph d 263 (zstep ph (zEm ph d) 4 1 0 [0] L st M) := zEv_step rfl
theorem e263_1 (ph : Bool) (d : Nat) (L st : List zV) (M : zM) : zEv ph d 263 1 L st M = zcont ph d 263 (zstep ph (zEm ph d) 62 4 0 [30, 38, 18, 10, 64] L st M) := zEv_step rfl
theorem e263_4 (ph : Bool) (d : Nat) (L st : List zV) (M : zM) : zEv ph d 263 4 L st M = zcont ph d 263 (zstep ph (zEm ph d) 4 5 0 [0] L st M) := zEv_step rfl
theorem e263_5 (ph : Bool) (d : Nat) (L st : List zV) (M : zM) : zEv ph d 263 5 L st M = zcont ph d 263 (zstep ph (zEm ph d) 60 8 0 [30, 39] L st M) := zEv_step rfl
theorem e263_8 (ph : Bool) (d : Nat) (L st : List zV) (M : zM) : zEv ph d 263 8 L st M = zcont ph d 263 (zstep ph (zEm ph d) 2 9 0 [1] L st M) := zEv_step rfl
theorem e263_9 (ph : Bool) (d : Nat) (L st : List zV) (M : zM) : zEv ph d 263 9 L st M = zcont ph d 263 (zstep ph (zEm ph d) 89 10 0 [] L st M) := zEv_step rfl
theorem e263_10 (ph : Bool) (d : Nat) (L st : List zV) (M : zM) : zEv ph d 263 10 L st M = zcont ph d 263 (zstep ph (zEm ph d) 4 11 0 [0] L st M) := zEv_step rfl
theorem e263_11 (ph : Bool) (d : Nat) (L st : List zV) (M : zM) : zEv ph d 263 11 L st M = zcont ph d 263 (zstep ph (zEm ph d) 36 12 0 [] L st M) := zEv_step rfl
theorem e263_12 (ph : Bool) (d : Nat) (L st : List zV) (M : zM) : zEv ph d 263 12 L st M = zcont ph d 263 (zstep ph (zEm ph d) 60 15 0 [30, 39] L st M) := zEv_step rfl
theorem e263_15 (ph : Bool) (d : Nat) (L st : List zV) (M : zM) : zEv ph d 263 15 L st M = zcont ph d 263 (zstep ph (zEm ph d) 0 16 0 [1] L st M) := zEv_step rfl
theorem e263_16 (ph : Bool) (d : Nat) (L st : List zV) (M : zM) : zEv ph d 263 16 L st M = zcont ph d 263 (zstep ph (zEm ph d) 10 17 0 [] L st M) := zEv_step rfl
theorem e263_17 (ph : Bool) (d : Nat) (L st : List zV) (M : zM) : zEv ph d 263 17 L st M = zcont ph d 263 (zstep ph (zEm ph d) 65 20 0 [30, 39] L st M) := zEv_step rfl
theorem e263_20 (ph : Bool) (d : Nat) (L st : List zV) (M : zM) : zEv ph d 263 20 L st M = zcont ph d 263 (zstep ph (zEm ph d) 83 21 0 [] L st M) := zEv_step rfl
theorem m264 (ph : Bool) (d : Nat) (a x0 p0 y0 : Int) (M : zM) : zEm ph (d + 1) 264 [(30, a, x0), (1, p0, y0)] M = zEv ph d 264 0 [(30, a, x0), (1, p0, y0), (3, 0, 0)] [] M := rfl
theorem e264_0 (ph : Bool) (d : Nat) (L st : List zV) (M : zM) : zEv ph d 264 0 L st M = zcont ph d 264 (zstep ph (zEm ph d) 3 1 0 [1] L st M) := zEv_step rfl
theorem e264_1 (ph : Bool) (d : Nat) (L st : List zV) (M : zM) : zEv ph d 264 1 L st M = zcont ph d 264 (zstep ph (zEm ph d) 1 4 0 [27] L st M) := zEv_step rfl
theorem e264_4 (ph : Bool) (d : Nat) (L st : List zV) (M : zM) : zEv ph d 264 4 L st M = zcont ph d 264 (zstep ph (zEm ph d) 27 5 0 [] L st M) := zEv_step rfl
theorem e264_5 (ph : Bool) (d : Nat) (L st : List zV) (M : zM) : zEv ph d 264 5 L st M = zcont ph d 264 (zstep ph (zEm ph d) 42 8 17 [] L st M) := zEv_step rfl
theorem e264_8 (ph : Bool) (d : Nat) (L st : List zV) (M : zM) : zEv ph d 264 8 L st M = zcont ph d 264 (zstep ph (zEm ph d) 4 9 0 [0] L st M) := zEv_step rfl
theorem e264_9 (ph : Bool) (d : Nat) (L st : List zV) (M : zM) : zEv ph d 264 9 L st M = zcont ph d 264 (zstep ph (zEm ph d) 3 10 0 [1] L st M) := zEv_step rfl
theorem e264_10 (ph : Bool) (d : Nat) (L st : List zV) (M : zM) : zEv ph d 264 10 L st M = zcont ph d 264 (zstep ph (zEm ph d) 1 13 0 [27] L st M) := zEv_step rfl
theorem e264_13 (ph : Bool) (d : Nat) (L st : List zV) (M : zM) : zEv ph d 264 13 L st M = zcont ph d 264 (zstep ph (zEm ph d) 25 14 0 [] L st M) := zEv_step rfl
theorem e264_14 (ph : Bool) (d : Nat) (L st : List zV) (M : zM) : zEv ph d 264 14 L st M = zcont ph d 264 (zstep ph (zEm ph d) 70 17 264 [2, 0, 30] L st M) := zEv_step rfl
theorem e264_17 (ph : Bool) (d : Nat) (L st : List zV) (M : zM) : zEv ph d 264 17 L st M = zcont ph d 264 (zstep ph (zEm ph d) 4 18 0 [0] L st M) := zEv_step rfl
theorem e264_18 (ph : Bool) (d : Nat) (L st : List zV) (M : zM) : zEv ph d 264 18 L st M = zcont ph d 264 (zstep ph (zEm ph d) 0 20 0 [96] L st M) := zEv_step rfl
theorem e264_20 (ph : Bool) (d : Nat) (L st : List zV) (M : zM) : zEv ph d 264 20 L st M = zcont ph d 264 (zstep ph (zEm ph d) 3 21 0 [1] L st M) := zEv_step rfl
theorem e264_21 (ph : Bool) (d : Nat) (L st : List zV) (M : zM) : zEv ph d 264 21 L st M = zcont ph d 264 (zstep ph (zEm ph d) 1 24 0 [27] L st M) := zEv_step rfl
theorem e264_24 (ph : Bool) (d : Nat) (L st : List zV) (M : zM) : zEv ph d 264 24 L st M = zcont ph d 264 (zstep ph (zEm ph d) 26 25 0 [] L st M) := zEv_step rfl
theorem e264_25 (ph : Bool) (d : Nat) (L st : List zV) (M : zM) : zEv ph d 264 25 L st M = zcont ph d 264 (zstep ph (zEm ph d) 29 26 0 [] L st M) := zEv_step rfl
theorem e264_26 (ph : Bool) (d : Nat) (L st : List zV) (M : zM) : zEv ph d 264 26 L st M = zcont ph d 264 (zstep ph (zEm ph d) 10 27 0 [] L st M) := zEv_step rfl
theorem e264_27 (ph : Bool) (d : Nat) (L st : List zV) (M : zM) : zEv ph d 264 27 L st M = zcont ph d 264 (zstep ph (zEm ph d) 70 30 263 [2, 0, 30] L st M) := zEv_step rfl
theorem e264_30 (ph : Bool) (d : Nat) (L st : List zV) (M : zM) : zEv ph d 264 30 L st M = zcont ph d 264 (zstep ph (zEm ph d) 83 31 0 [] L st M) := zEv_step rfl
theorem m265 (ph : Bool) (d : Nat) (a x0 p0 y0 : Int) (M : zM) : zEm ph (d + 1) 265 [(30, a, x0), (0, p0, y0)] M = zEv ph d 265 0 [(30, a, x0), (0, p0, y0)] [] M := rfl
theorem e265_0 (ph : Bool) (d : Nat) (L st : List zV) (M : zM) : zEv ph d 265 0 L st M = zcont ph d 265 (zstep ph (zEm ph d) 2 1 0 [1] L st M) := zEv_step rfl
theorem e265_1 (ph : Bool) (d : Nat) (L st : List zV) (M : zM) : zEv ph d 265 1 L st M = zcont ph d 265 (zstep ph (zEm ph d) 0 3 0 [9] L st M) := zEv_step rfl
theorem e265_3 (ph : Bool) (d : Nat) (L st : List zV) (M : zM) : zEv ph d 265 3 L st M = zcont ph d 265 (zstep ph (zEm ph d) 51 6 14 [] L st M) := zEv_step rfl
theorem e265_6 (ph : Bool) (d : Nat) (L st : List zV) (M : zM) : zEv ph d 265 6 L st M = zcont ph d 265 (zstep ph (zEm ph d) 4 7 0 [0] L st M) := zEv_step rfl
theorem e265_7 (ph : Bool) (d : Nat) (L st : List zV) (M : zM) : zEv ph d 265 7 L st M = zcont ph d 265 (zstep ph (zEm ph d) 2 8 0 [1] L st M) := zEv_step rfl
theorem e265_8 (ph : Bool) (d : Nat) (L st : List zV) (M : zM) : zEv ph d 265 8 L st M = zcont ph d 265 (zstep ph (zEm ph d) 0 10 0 [10] L st M) := zEv_step rfl
theorem e265_10 (ph : Bool) (d : Nat) (L st : List zV) (M : zM) : zEv ph d 265 10 L st M = zcont ph d 265 (zstep ph (zEm ph d) 13 11 0 [] L st M) := zEv_step rfl
theorem e265_11 (ph : Bool) (d : Nat) (L st : List zV) (M : zM) : zEv ph d 265 11 L st M = zcont ph d 265 (zstep ph (zEm ph d) 70 14 265 [2, 0, 30] L st M) := zEv_step rfl
theorem e265_14 (ph : Bool) (d : Nat) (L st : List zV) (M : zM) : zEv ph d 265 14 L st M = zcont ph d 265 (zstep ph (zEm ph d) 4 15 0 [0] L st M) := zEv_step rfl
theorem e265_15 (ph : Bool) (d : Nat) (L st : List zV) (M : zM) : zEv ph d 265 15 L st M = zcont ph d 265 (zstep ph (zEm ph d) 0 17 0 [48] L st M) := zEv_step rfl
theorem e265_17 (ph : Bool) (d : Nat) (L st : List zV) (M : zM) : zEv ph d 265 17 L st M = zcont ph d 265 (zstep ph (zEm ph d) 2 18 0 [1] L st M) := zEv_step rfl
theorem e265_18 (ph : Bool) (d : Nat) (L st : List zV) (M : zM) : zEv ph d 265 18 L st M = zcont ph d 265 (zstep ph (zEm ph d) 0 20 0 [10] L st M) := zEv_step rfl
theorem e265_20 (ph : Bool) (d : Nat) (L st : List zV) (M : zM) : zEv ph d 265 20 L st M = zcont ph d 265 (zstep ph (zEm ph d) 14 21 0 [] L st M) := zEv_step rfl
theorem e265_21 (ph : Bool) (d : Nat) (L st : List zV) (M : zM) : zEv ph d 265 21 L st M = zcont ph d 265 (zstep ph (zEm ph d) 10 22 0 [] L st M) := zEv_step rfl
theorem e265_22 (ph : Bool) (d : Nat) (L st : List zV) (M : zM) : zEv ph d 265 22 L st M = zcont ph d 265 (zstep ph (zEm ph d) 70 25 263 [2, 0, 30] L st M) := zEv_step rfl
theorem e265_25 (ph : Bool) (d : Nat) (L st : List zV) (M : zM) : zEv ph d 265 25 L st M = zcont ph d 265 (zstep ph (zEm ph d) 83 26 0 [] L st M) := zEv_step rfl
theorem m266 (ph : Bool) (d : Nat) (a x0 p0 y0 : Int) (M : zM) : zEm ph (d + 1) 266 [(30, a, x0), (1, p0, y0)] M = zEv ph d 266 0 [(30, a, x0), (1, p0, y0), (3, 0, 0)] [] M := rfl
theorem e266_0 (ph : Bool) (d : Nat) (L st : List zV) (M : zM) : zEv ph d 266 0 L st M = zcont ph d 266 (zstep ph (zEm ph d) 4 1 0 [0] L st M) := zEv_step rfl
theorem e266_1 (ph : Bool) (d : Nat) (L st : List zV) (M : zM) : zEv ph d 266 1 L st M = zcont ph d 266 (zstep ph (zEm ph d) 0 3 0 [32] L st M) := zEv_step rfl
theorem e266_3 (ph : Bool) (d : Nat) (L st : List zV) (M : zM) : zEv ph d 266 3 L st M = zcont ph d 266 (zstep ph (zEm ph d) 70 6 263 [2, 0, 30] L st M) := zEv_step rfl
theorem e266_6 (ph : Bool) (d : Nat) (L st : List zV) (M : zM) : zEv ph d 266 6 L st M = zcont ph d 266 (zstep ph (zEm ph d) 4 7 0 [0] L st M) := zEv_step rfl
theorem e266_7 (ph : Bool) (d : Nat) (L st : List zV) (M : zM) : zEv ph d 266 7 L st M = zcont ph d 266 (zstep ph (zEm ph d) 3 8 0 [1] L st M) := zEv_step rfl
theorem e266_8 (ph : Bool) (d : Nat) (L st : List zV) (M : zM) : zEv ph d 266 8 L st M = zcont ph d 266 (zstep ph (zEm ph d) 70 11 264 [2, 0, 30] L st M) := zEv_step rfl
theorem e266_11 (ph : Bool) (d : Nat) (L st : List zV) (M : zM) : zEv ph d 266 11 L st M = zcont ph d 266 (zstep ph (zEm ph d) 83 12 0 [] L st M) := zEv_step rfl
theorem m177 (ph : Bool) (d : Nat) (p0 y0 p1 y1 p2 y2 p3 y3 p4 y4 p5 y5 p6 y6 p7 y7 : Int) (M : zM) : zEm ph (d + 1) 177 [(0, p0, y0), (0, p1, y1), (0, p2, y2), (0, p3, y3), (0, p4, y4), (0, p5, y5), (0, p6, y6), (0, p7, y7)] M = zEv ph d 177 0 [(0, p0, y0), (0, p1, y1), (0, p2, y2), (0, p3, y3), (0, p4, y4), (0, p5, y5), (0, p6, y6), (0, p7, y7), (3, 0, 0), (3, 0, 0)] [] M := rfl
theorem e177_0 (ph : Bool) (d : Nat) (L st : List zV) (M : zM) : zEv ph d 177 0 L st M = zcont ph d 177 (zstep ph (zEm ph d) 1 3 0 [27] L st M) := zEv_step rfl
theorem e177_3 (ph : Bool) (d : Nat) (L st : List zV) (M : zM) : zEv ph d 177 3 L st M = zcont ph d 177 (zstep ph (zEm ph d) 2 4 0 [0] L st M) := zEv_step rfl
theorem e177_4 (ph : Bool) (d : Nat) (L st : List zV) (M : zM) : zEv ph d 177 4 L st M = zcont ph d 177 (zstep ph (zEm ph d) 28 5 0 [] L st M) := zEv_step rfl
theorem e177_5 (ph : Bool) (d : Nat) (L st : List zV) (M : zM) : zEv ph d 177 5 L st M = zcont ph d 177 (zstep ph (zEm ph d) 1 8 0 [96] L st M) := zEv_step rfl
theorem e177_8 (ph : Bool) (d : Nat) (L st : List zV) (M : zM) : zEv ph d 177 8 L st M = zcont ph d 177 (zstep ph (zEm ph d) 23 9 0 [] L st M) := zEv_step rfl
theorem e177_9 (ph : Bool) (d : Nat) (L st : List zV) (M : zM) : zEv ph d 177 9 L st M = zcont ph d 177 (zstep ph (zEm ph d) 24 10 0 [] L st M) := zEv_step rfl
theorem e177_10 (ph : Bool) (d : Nat) (L st : List zV) (M : zM) : zEv ph d 177 10 L st M = zcont ph d 177 (zstep ph (zEm ph d) 2 11 0 [1] L st M) := zEv_step rfl
theorem e177_11 (ph : Bool) (d : Nat) (L st : List zV) (M : zM) : zEv ph d 177 11 L st M = zcont ph d 177 (zstep ph (zEm ph d) 28 12 0 [] L st M) := zEv_step rfl
theorem e177_12 (ph : Bool) (d : Nat) (L st : List zV) (M : zM) : zEv ph d 177 12 L st M = zcont ph d 177 (zstep ph (zEm ph d) 22 13 0 [] L st M) := zEv_step rfl
theorem e177_13 (ph : Bool) (d : Nat) (L st : List zV) (M : zM) : zEv ph d 177 13 L st M = zcont ph d 177 (zstep ph (zEm ph d) 1 16 0 [96] L st M) := zEv_step rfl
theorem e177_16 (ph : Bool) (d : Nat) (L st : List zV) (M : zM) : zEv ph d 177 16 L st M = zcont ph d 177 (zstep ph (zEm ph d) 23 17 0 [] L st M) := zEv_step rfl
theorem e177_17 (ph : Bool) (d : Nat) (L st : List zV) (M : zM) : zEv ph d 177 17 L st M = zcont ph d 177 (zstep ph (zEm ph d) 6 19 0 [8] L st M) := zEv_step rfl
theorem e177_19 (ph : Bool) (d : Nat) (L st : List zV) (M : zM) : zEv ph d 177 19 L st M = zcont ph d 177 (zstep ph (zEm ph d) 2 20 0 [2] L st M) := zEv_step rfl
theorem e177_20 (ph : Bool) (d : Nat) (L st : List zV) (M : zM) : zEv ph d 177 20 L st M = zcont ph d 177 (zstep ph (zEm ph d) 45 23 38 [] L st M) := zEv_step rfl
theorem e177_23 (ph : Bool) (d : Nat) (L st : List zV) (M : zM) : zEv ph d 177 23 L st M = zcont ph d 177 (zstep ph (zEm ph d) 1 26 0 [27] L st M) := zEv_step rfl
theorem e177_26 (ph : Bool) (d : Nat) (L st : List zV) (M : zM) : zEv ph d 177 26 L st M = zcont ph d 177 (zstep ph (zEm ph d) 3 28 0 [8] L st M) := zEv_step rfl
theorem e177_28 (ph : Bool) (d : Nat) (L st : List zV) (M : zM) : zEv ph d 177 28 L st M = zcont ph d 177 (zstep ph (zEm ph d) 24 29 0 [] L st M) := zEv_step rfl
theorem e177_29 (ph : Bool) (d : Nat) (L st : List zV) (M : zM) : zEv ph d 177 29 L st M = zcont ph d 177 (zstep ph (zEm ph d) 2 30 0 [2] L st M) := zEv_step rfl
theorem e177_30 (ph : Bool) (d : Nat) (L st : List zV) (M : zM) : zEv ph d 177 30 L st M = zcont ph d 177 (zstep ph (zEm ph d) 28 31 0 [] L st M) := zEv_step rfl
theorem e177_31 (ph : Bool) (d : Nat) (L st : List zV) (M : zM) : zEv ph d 177 31 L st M = zcont ph d 177 (zstep ph (zEm ph d) 22 32 0 [] L st M) := zEv_step rfl
theorem e177_32 (ph : Bool) (d : Nat) (L st : List zV) (M : zM) : zEv ph d 177 32 L st M = zcont ph d 177 (zstep ph (zEm ph d) 1 35 0 [96] L st M) := zEv_step rfl
theorem e177_35 (ph : Bool) (d : Nat) (L st : List zV) (M : zM) : zEv ph d 177 35 L st M = zcont ph d 177 (zstep ph (zEm ph d) 23 36 0 [] L st M) := zEv_step rfl
theorem e177_36 (ph : Bool) (d : Nat) (L st : List zV) (M : zM) : zEv ph d 177 36 L st M = zcont ph d 177 (zstep ph (zEm ph d) 6 38 0 [8] L st M) := zEv_step rfl
theorem e177_38 (ph : Bool) (d : Nat) (L st : List zV) (M : zM) : zEv ph d 177 38 L st M = zcont ph d 177 (zstep ph (zEm ph d) 2 39 0 [3] L st M) := zEv_step rfl
theorem e177_39 (ph : Bool) (d : Nat) (L st : List zV) (M : zM) : zEv ph d 177 39 L st M = zcont ph d 177 (zstep ph (zEm ph d) 45 42 57 [] L st M) := zEv_step rfl
theorem e177_42 (ph : Bool) (d : Nat) (L st : List zV) (M : zM) : zEv ph d 177 42 L st M = zcont ph d 177 (zstep ph (zEm ph d) 1 45 0 [27] L st M) := zEv_step rfl
theorem e177_45 (ph : Bool) (d : Nat) (L st : List zV) (M : zM) : zEv ph d 177 45 L st M = zcont ph d 177 (zstep ph (zEm ph d) 3 47 0 [8] L st M) := zEv_step rfl
theorem e177_47 (ph : Bool) (d : Nat) (L st : List zV) (M : zM) : zEv ph d 177 47 L st M = zcont ph d 177 (zstep ph (zEm ph d) 24 48 0 [] L st M) := zEv_step rfl
theorem e177_48 (ph : Bool) (d : Nat) (L st : List zV) (M : zM) : zEv ph d 177 48 L st M = zcont ph d 177 (zstep ph (zEm ph d) 2 49 0 [3] L st M) := zEv_step rfl
theorem e177_49 (ph : Bool) (d : Nat) (L st : List zV) (M : zM) : zEv ph d 177 49 L st M = zcont ph d 177 (zstep ph (zEm ph d) 28 50 0 [] L st M) := zEv_step rfl
theorem e177_50 (ph : Bool) (d : Nat) (L st : List zV) (M : zM) : zEv ph d 177 50 L st M = zcont ph d 177 (zstep ph (zEm ph d) 22 51 0 [] L st M) := zEv_step rfl
theorem e177_51 (ph : Bool) (d : Nat) (L st : List zV) (M : zM) : zEv ph d 177 51 L st M = zcont ph d 177 (zstep ph (zEm ph d) 1 54 0 [96] L st M) := zEv_step rfl
theorem e177_54 (ph : Bool) (d : Nat) (L st : List zV) (M : zM) : zEv ph d 177 54 L st M = zcont ph d 177 (zstep ph (zEm ph d) 23 55 0 [] L st M) := zEv_step rfl
theorem e177_55 (ph : Bool) (d : Nat) (L st : List zV) (M : zM) : zEv ph d 177 55 L st M = zcont ph d 177 (zstep ph (zEm ph d) 6 57 0 [8] L st M) := zEv_step rfl
theorem e177_57 (ph : Bool) (d : Nat) (L st : List zV) (M : zM) : zEv ph d 177 57 L st M = zcont ph d 177 (zstep ph (zEm ph d) 2 59 0 [4] L st M) := zEv_step rfl
theorem e177_59 (ph : Bool) (d : Nat) (L st : List zV) (M : zM) : zEv ph d 177 59 L st M = zcont ph d 177 (zstep ph (zEm ph d) 45 62 78 [] L st M) := zEv_step rfl
theorem e177_62 (ph : Bool) (d : Nat) (L st : List zV) (M : zM) : zEv ph d 177 62 L st M = zcont ph d 177 (zstep ph (zEm ph d) 1 65 0 [27] L st M) := zEv_step rfl
theorem e177_65 (ph : Bool) (d : Nat) (L st : List zV) (M : zM) : zEv ph d 177 65 L st M = zcont ph d 177 (zstep ph (zEm ph d) 3 67 0 [8] L st M) := zEv_step rfl
theorem e177_67 (ph : Bool) (d : Nat) (L st : List zV) (M : zM) : zEv ph d 177 67 L st M = zcont ph d 177 (zstep ph (zEm ph d) 24 68 0 [] L st M) := zEv_step rfl
theorem e177_68 (ph : Bool) (d : Nat) (L st : List zV) (M : zM) : zEv ph d 177 68 L st M = zcont ph d 177 (zstep ph (zEm ph d) 2 70 0 [4] L st M) := zEv_step rfl
theorem e177_70 (ph : Bool) (d : Nat) (L st : List zV) (M : zM) : zEv ph d 177 70 L st M = zcont ph d 177 (zstep ph (zEm ph d) 28 71 0 [] L st M) := zEv_step rfl
theorem e177_71 (ph : Bool) (d : Nat) (L st : List zV) (M : zM) : zEv ph d 177 71 L st M = zcont ph d 177 (zstep ph (zEm ph d) 22 72 0 [] L st M) := zEv_step rfl
theorem e177_72 (ph : Bool) (d : Nat) (L st : List zV) (M : zM) : zEv ph d 177 72 L st M = zcont ph d 177 (zstep ph (zEm ph d) 1 75 0 [96] L st M) := zEv_step rfl
theorem e177_75 (ph : Bool) (d : Nat) (L st : List zV) (M : zM) : zEv ph d 177 75 L st M = zcont ph d 177 (zstep ph (zEm ph d) 23 76 0 [] L st M) := zEv_step rfl
theorem e177_76 (ph : Bool) (d : Nat) (L st : List zV) (M : zM) : zEv ph d 177 76 L st M = zcont ph d 177 (zstep ph (zEm ph d) 6 78 0 [8] L st M) := zEv_step rfl
theorem e177_78 (ph : Bool) (d : Nat) (L st : List zV) (M : zM) : zEv ph d 177 78 L st M = zcont ph d 177 (zstep ph (zEm ph d) 2 80 0 [5] L st M) := zEv_step rfl
theorem e177_80 (ph : Bool) (d : Nat) (L st : List zV) (M : zM) : zEv ph d 177 80 L st M = zcont ph d 177 (zstep ph (zEm ph d) 45 83 99 [] L st M) := zEv_step rfl
theorem e177_83 (ph : Bool) (d : Nat) (L st : List zV) (M : zM) : zEv ph d 177 83 L st M = zcont ph d 177 (zstep ph (zEm ph d) 1 86 0 [27] L st M) := zEv_step rfl
theorem e177_86 (ph : Bool) (d : Nat) (L st : List zV) (M : zM) : zEv ph d 177 86 L st M = zcont ph d 177 (zstep ph (zEm ph d) 3 88 0 [8] L st M) := zEv_step rfl
theorem e177_88 (ph : Bool) (d : Nat) (L st : List zV) (M : zM) : zEv ph d 177 88 L st M = zcont ph d 177 (zstep ph (zEm ph d) 24 89 0 [] L st M) := zEv_step rfl
theorem e177_89 (ph : Bool) (d : Nat) (L st : List zV) (M : zM) : zEv ph d 177 89 L st M = zcont ph d 177 (zstep ph (zEm ph d) 2 91 0 [5] L st M) := zEv_step rfl
theorem e177_91 (ph : Bool) (d : Nat) (L st : List zV) (M : zM) : zEv ph d 177 91 L st M = zcont ph d 177 (zstep ph (zEm ph d) 28 92 0 [] L st M) := zEv_step rfl
theorem e177_92 (ph : Bool) (d : Nat) (L st : List zV) (M : zM) : zEv ph d 177 92 L st M = zcont ph d 177 (zstep ph (zEm ph d) 22 93 0 [] L st M) := zEv_step rfl
theorem e177_93 (ph : Bool) (d : Nat) (L st : List zV) (M : zM) : zEv ph d 177 93 L st M = zcont ph d 177 (zstep ph (zEm ph d) 1 96 0 [96] L st M) := zEv_step rfl
theorem e177_96 (ph : Bool) (d : Nat) (L st : List zV) (M : zM) : zEv ph d 177 96 L st M = zcont ph d 177 (zstep ph (zEm ph d) 23 97 0 [] L st M) := zEv_step rfl
theorem e177_97 (ph : Bool) (d : Nat) (L st : List zV) (M : zM) : zEv ph d 177 97 L st M = zcont ph d 177 (zstep ph (zEm ph d) 6 99 0 [8] L st M) := zEv_step rfl
theorem e177_99 (ph : Bool) (d : Nat) (L st : List zV) (M : zM) : zEv ph d 177 99 L st M = zcont ph d 177 (zstep ph (zEm ph d) 2 101 0 [6] L st M) := zEv_step rfl
theorem e177_101 (ph : Bool) (d : Nat) (L st : List zV) (M : zM) : zEv ph d 177 101 L st M = zcont ph d 177 (zstep ph (zEm ph d) 45 104 120 [] L st M) := zEv_step rfl
theorem e177_104 (ph : Bool) (d : Nat) (L st : List zV) (M : zM) : zEv ph d 177 104 L st M = zcont ph d 177 (zstep ph (zEm ph d) 1 107 0 [27] L st M) := zEv_step rfl
theorem e177_107 (ph : Bool) (d : Nat) (L st : List zV) (M : zM) : zEv ph d 177 107 L st M = zcont ph d 177 (zstep ph (zEm ph d) 3 109 0 [8] L st M) := zEv_step rfl
theorem e177_109 (ph : Bool) (d : Nat) (L st : List zV) (M : zM) : zEv ph d 177 109 L st M = zcont ph d 177 (zstep ph (zEm ph d) 24 110 0 [] L st M) := zEv_step rfl
theorem e177_110 (ph : Bool) (d : Nat) (L st : List zV) (M : zM) : zEv ph d 177 110 L st M = zcont ph d 177 (zstep ph (zEm ph d) 2 112 0 [6] L st M) := zEv_step rfl
theorem e177_112 (ph : Bool) (d : Nat) (L st : List zV) (M : zM) : zEv ph d 177 112 L st M = zcont ph d 177 (zstep ph (zEm ph d) 28 113 0 [] L st M) := zEv_step rfl
theorem e177_113 (ph : Bool) (d : Nat) (L st : List zV) (M : zM) : zEv ph d 177 113 L st M = zcont ph d 177 (zstep ph (zEm ph d) 22 114 0 [] L st M) := zEv_step rfl
theorem e177_114 (ph : Bool) (d : Nat) (L st : List zV) (M : zM) : zEv ph d 177 114 L st M = zcont ph d 177 (zstep ph (zEm ph d) 1 117 0 [96] L st M) := zEv_step rfl
theorem e177_117 (ph : Bool) (d : Nat) (L st : List zV) (M : zM) : zEv ph d 177 117 L st M = zcont ph d 177 (zstep ph (zEm ph d) 23 118 0 [] L st M) := zEv_step rfl
theorem e177_118 (ph : Bool) (d : Nat) (L st : List zV) (M : zM) : zEv ph d 177 118 L st M = zcont ph d 177 (zstep ph (zEm ph d) 6 120 0 [8] L st M) := zEv_step rfl
theorem e177_120 (ph : Bool) (d : Nat) (L st : List zV) (M : zM) : zEv ph d 177 120 L st M = zcont ph d 177 (zstep ph (zEm ph d) 2 122 0 [7] L st M) := zEv_step rfl
theorem e177_122 (ph : Bool) (d : Nat) (L st : List zV) (M : zM) : zEv ph d 177 122 L st M = zcont ph d 177 (zstep ph (zEm ph d) 45 125 141 [] L st M) := zEv_step rfl
theorem e177_125 (ph : Bool) (d : Nat) (L st : List zV) (M : zM) : zEv ph d 177 125 L st M = zcont ph d 177 (zstep ph (zEm ph d) 1 128 0 [27] L st M) := zEv_step rfl
theorem e177_128 (ph : Bool) (d : Nat) (L st : List zV) (M : zM) : zEv ph d 177 128 L st M = zcont ph d 177 (zstep ph (zEm ph d) 3 130 0 [8] L st M) := zEv_step rfl
theorem e177_130 (ph : Bool) (d : Nat) (L st : List zV) (M : zM) : zEv ph d 177 130 L st M = zcont ph d 177 (zstep ph (zEm ph d) 24 131 0 [] L st M) := zEv_step rfl
theorem e177_131 (ph : Bool) (d : Nat) (L st : List zV) (M : zM) : zEv ph d 177 131 L st M = zcont ph d 177 (zstep ph (zEm ph d) 2 133 0 [7] L st M) := zEv_step rfl
theorem e177_133 (ph : Bool) (d : Nat) (L st : List zV) (M : zM) : zEv ph d 177 133 L st M = zcont ph d 177 (zstep ph (zEm ph d) 28 134 0 [] L st M) := zEv_step rfl
theorem e177_134 (ph : Bool) (d : Nat) (L st : List zV) (M : zM) : zEv ph d 177 134 L st M = zcont ph d 177 (zstep ph (zEm ph d) 22 135 0 [] L st M) := zEv_step rfl
theorem e177_135 (ph : Bool) (d : Nat) (L st : List zV) (M : zM) : zEv ph d 177 135 L st M = zcont ph d 177 (zstep ph (zEm ph d) 1 138 0 [96] L st M) := zEv_step rfl
theorem e177_138 (ph : Bool) (d : Nat) (L st : List zV) (M : zM) : zEv ph d 177 138 L st M = zcont ph d 177 (zstep ph (zEm ph d) 23 139 0 [] L st M) := zEv_step rfl
theorem e177_139 (ph : Bool) (d : Nat) (L st : List zV) (M : zM) : zEv ph d 177 139 L st M = zcont ph d 177 (zstep ph (zEm ph d) 6 141 0 [8] L st M) := zEv_step rfl
theorem e177_141 (ph : Bool) (d : Nat) (L st : List zV) (M : zM) : zEv ph d 177 141 L st M = zcont ph d 177 (zstep ph (zEm ph d) 3 143 0 [8] L st M) := zEv_step rfl
theorem e177_143 (ph : Bool) (d : Nat) (L st : List zV) (M : zM) : zEv ph d 177 143 L st M = zcont ph d 177 (zstep ph (zEm ph d) 81 144 0 [] L st M) := zEv_step rfl
theorem r_write (d : Nat) (z c y : Int) (M : zM) (t0 : 0 ≤ M 197 39) (t1 : M 197 39 < 64) : ∃ M', zEm true (d + 1) 263 [(30, 197, z), (0, c, y)] M = some ((98, 0, 0), M') ∧ rT M M' 1 (fun _ => c) := by
  refine ⟨zup (zup M 215 (M 197 39) c) 197 39 (M 197 39 + 1), by simp (disch := first | assumption | exact zrm0 | exact zrm1 _ | exact zrm2 _ _ | exact zrm3 _ _ _ | exact zrm4 _ _ _ _ | omega) only [m263, ↓k_dp, ↓k_dn, k_dp, k_dn, k_dT, k_dF, k_ip, k_in, if_true, if_false, ne_eq, not_true_eq_false, not_false_eq_true, Int.reduceAdd, zup_a, zup_e, zup_j, z32_id, k_al0, k_gR, k_gI, k_il1, k_ist, k_dup, k_ic, k_iadd, k_pI, k_rv, e263_0, e263_1, e263_4, e263_5, e263_8, e263_9, e263_10, e263_11, e263_12, e263_15, e263_16, e263_17, e263_20], zup_e (by omega), fun i i0 i1 => ?_, fun x y h1 h2 => ?_⟩
  · rw [zup_a (by omega), show M 197 39 + i = M 197 39 by omega, zup_e (by omega)]
  · unfold zup
    rw [if_neg (by omega), if_neg (by omega)]
theorem V27_bd : ∀ {R : List Int}, okL R → 0 ≤ V27 R ∧ V27 R < 27 ^ R.length
  | [], _ => ⟨by decide, by decide⟩
  | c :: R, h => by
    have hc := h.2 c (List.mem_cons_self ..)
    have ih := V27_bd (R := R) ⟨by have := h.1; simp only [List.length_cons] at this; omega, fun x hx => h.2 x (List.mem_cons_of_mem _ hx)⟩
    have e : (27 : Int) ^ (c :: R).length = 27 * 27 ^ R.length := by rw [List.length_cons, Int.pow_succ, Int.mul_comm]
    unfold V27
    rw [e]
    omega
theorem V27_pos {c : Int} {R : List Int} (h : okL (c :: R)) : 1 ≤ V27 (c :: R) := by
  have hc := h.2 c (List.mem_cons_self ..)
  have ih := V27_bd (R := R) ⟨by have := h.1; simp only [List.length_cons] at this; omega, fun x hx => h.2 x (List.mem_cons_of_mem _ hx)⟩
  unfold V27
  omega
theorem fN_cons {c : Int} {R : List Int} {i : Int} (i0 : 0 ≤ i) : (i < R.length → fN (c :: R) i = fN R i) ∧ (i = R.length → fN (c :: R) i = 96 + c) := by
  unfold fN
  rw [List.length_cons]
  refine ⟨fun h => ?_, fun h => ?_⟩
  · have e : R.length + 1 - 1 - i.toNat = (R.length - 1 - i.toNat) + 1 := by omega
    rw [e]
    rfl
  · have e : R.length + 1 - 1 - i.toNat = 0 := by omega
    rw [e]
    rfl
theorem zlrem_27 {v c : Int} (v0 : 0 ≤ v) (v1 : v < 1000000000000) (c0 : 1 ≤ c) (c1 : c ≤ 26) : zlrem (27 * v + c) 27 = c := by
  unfold zlrem
  have h : Int.tdiv (27 * v + c) 27 = v := by rw [Int.tdiv_eq_ediv_of_nonneg (by omega)]; omega
  rw [h, z64_id (x := v) (by omega) (by omega), z64_id (x := v * 27) (by omega) (by omega), z64_id (by omega) (by omega)]
  omega
theorem r_writeWord (z : Int) : ∀ (R : List Int) (c : Int) (D : Nat) (y : Int) (M : zM), okL (c :: R) → R.length + 2 ≤ D → 0 ≤ M 197 39 → M 197 39 + R.length + 1 ≤ 64 → ∃ M', zEm true D 264 [(30, 197, z), (1, V27 (c :: R), y)] M = some ((98, 0, 0), M') ∧ rT M M' (R.length + 1) (fN (c :: R))
  | [], c, D, y, M, hR, hD, t0, t1 => by
    obtain ⟨d, rfl⟩ : ∃ d, D = d + 2 := ⟨D - 2, by simp only [List.length_nil] at hD; omega⟩
    have hc := hR.2 c (List.mem_cons_self ..)
    obtain ⟨P, p1, p2⟩ := r_write d z (96 + c) 0 M t0 (by simp only [List.length_nil] at t1; omega)
    have hm := zlrem_27 (v := 0) (by omega) (by omega) hc.1 hc.2
    have ev : 27 * 0 + c = c := by omega
    rw [ev] at hm
    have hcm : zcmp c 27 = -1 := by unfold zcmp; (repeat' split) <;> omega
    refine ⟨P, ?_, rT_congr p2 (fun i i0 i1 => ((fN_cons (R := []) i0).2 (by simp only [List.length_nil] at i1 ⊢; omega)).symm)⟩
    have e : V27 [c] = c := by unfold V27 V27; omega
    rw [e]
    simp (disch := first | assumption | exact zrm0 | exact zrm1 _ | exact zrm2 _ _ | exact zrm3 _ _ _ | exact zrm4 _ _ _ _ | omega) only [m264, ↓k_dp, ↓k_dn, k_dp, k_dn, k_dT, k_dF, k_ip, k_in, if_true, if_false, ne_eq, not_true_eq_false, not_false_eq_true, Int.reduceAdd, zup_a, zup_e, zup_j, z32_id, k_ll1, k_lc, k_lcmp, k_iflt, k_al0, k_ldiv, k_v2, k_ic, k_lrem, k_l2i, k_iadd, k_rv, zb0_some, zb1_some, e264_0, e264_1, e264_4, e264_5, e264_8, e264_9, e264_10, e264_13, e264_14, e264_17, e264_18, e264_20, e264_21, e264_24, e264_25, e264_26, e264_27, e264_30, hcm, hm, p1, Int.reduceNeg, Int.reduceLT]
  | b :: R, c, D, y, M, hR, hD, t0, t1 => by
    obtain ⟨d, rfl⟩ : ∃ d, D = d + 2 := ⟨D - 2, by simp only [List.length_cons] at hD; omega⟩
    have hc := hR.2 c (List.mem_cons_self ..)
    have hR2 : okL (b :: R) := ⟨by have := hR.1; simp only [List.length_cons] at this ⊢; omega, fun x hx => hR.2 x (List.mem_cons_of_mem _ hx)⟩
    simp only [List.length_cons] at hD t1
    obtain ⟨P, p1, p2⟩ := r_writeWord z R b (d + 1) 0 M hR2 (by omega) t0 (by omega)
    obtain ⟨P', q1, q2⟩ := r_write d z (96 + c) 0 P (by rw [p2.1]; omega) (by rw [p2.1]; omega)
    have hp := V27_pos hR2
    have hb := V27_bd hR2
    have hb2 : V27 (b :: R) < 1000000000000 := by
      have h := Nat.pow_le_pow_right (n := 27) (by omega) hR2.1
      have h' : (27 : Int) ^ (b :: R).length ≤ 27 ^ 8 := by exact_mod_cast h
      omega
    have hm := zlrem_27 (v := V27 (b :: R)) (by omega) hb2 hc.1 hc.2
    have hcm : ∀ w, 27 ≤ w → 0 ≤ zcmp w 27 := fun w hw => by unfold zcmp; (repeat' split) <;> omega
    have hcm := hcm (27 * V27 (b :: R) + c) (by omega)
    have hdv : Int.tdiv (27 * V27 (b :: R) + c) 27 = V27 (b :: R) := by rw [Int.tdiv_eq_ediv_of_nonneg (by omega)]; omega
    have h64 : z64 (V27 (b :: R)) = V27 (b :: R) := z64_id (by omega) (by omega)
    refine ⟨P', ?_, ?_⟩
    · have e : V27 (c :: b :: R) = 27 * V27 (b :: R) + c := rfl
      rw [e]
      generalize V27 (b :: R) = v at *
      simp (disch := first | assumption | exact zrm0 | exact zrm1 _ | exact zrm2 _ _ | exact zrm3 _ _ _ | exact zrm4 _ _ _ _ | omega) only [m264, ↓k_dp, ↓k_dn, k_dp, k_dn, k_dT, k_dF, k_ip, k_in, if_true, if_false, ne_eq, not_true_eq_false, not_false_eq_true, Int.reduceAdd, zup_a, zup_e, zup_j, z32_id, k_ll1, k_lc, k_lcmp, k_iflt, k_al0, k_ldiv, k_v2, k_ic, k_lrem, k_l2i, k_iadd, k_rv, zb0_some, zb1_some, e264_0, e264_1, e264_4, e264_5, e264_8, e264_9, e264_10, e264_13, e264_14, e264_17, e264_18, e264_20, e264_21, e264_24, e264_25, e264_26, e264_27, e264_30, hm, hdv, h64, p1, q1]
    · have e : ((b :: R).length : Int) + 1 = (R.length : Int) + 1 + 1 := by simp only [List.length_cons]; omega
      rw [e]
      refine rT_congr (rT_comp (by omega) (by omega) p2 q2) (fun i i0 i1 => ?_)
      have hl : ((b :: R).length : Int) = R.length + 1 := by simp only [List.length_cons]; omega
      by_cases ci : i < (R.length : Int) + 1
      · rw [if_pos ci]
        exact ((fN_cons i0).1 (by omega)).symm
      · rw [if_neg ci]
        exact ((fN_cons i0).2 (by omega)).symm
