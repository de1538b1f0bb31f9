/-! the class's token, the rest of it -/
theorem zup_f {M : zM} {a j v x y : Int} (h : ¬ (x = a ∧ y = j)) : zup M a j v x y = M x y := by
  unfold zup
  rw [if_neg (fun z => h ⟨z.1, z.2.1⟩)]
theorem zb8c : ∀ n : Fin 256, zb8 (n.val : Int) = if n.val < 128 then (n.val : Int) else (n.val : Int) - 256 := by decide +kernel
theorem zc16c : ∀ n : Fin 256, zc16 (n.val : Int) = (n.val : Int) := by decide +kernel
theorem zb8_t {c : Int} (c0 : 0 ≤ c) (c1 : c ≤ 255) : zb8 c = c ∧ c < 128 ∨ zb8 c = c - 256 ∧ 128 ≤ c := by
  obtain ⟨n, rfl⟩ := Int.eq_ofNat_of_zero_le c0
  have h := zb8c ⟨n, by omega⟩
  dsimp only at h
  split at h <;> omega
theorem zc16_t {c : Int} (c0 : 0 ≤ c) (c1 : c ≤ 255) : zc16 c = c := by
  obtain ⟨n, rfl⟩ := Int.eq_ofNat_of_zero_le c0
  exact zc16c ⟨n, by omega⟩
def isS (c : Int) : Prop := c = 59 ∨ c = 60 ∨ c = 61 ∨ c = 62 ∨ c = 40 ∨ c = 41 ∨ c = 46
theorem m325 (ph : Bool) (d : Nat) (a x0 p0 y0 : Int) (M : zM) : zEm ph (d + 1) 325 [(8, a, x0), (0, p0, y0)] M = zEv ph d 325 0 [(8, a, x0), (0, p0, y0)] [] M := rfl
theorem e325_0 (ph : Bool) (d : Nat) (L st : List zV) (M : zM) : zEv ph d 325 0 L st M = zcont ph d 325 (zstep ph (zEm ph d) 4 1 0 [0] L st M) := zEv_step rfl
theorem e325_1 (ph : Bool) (d : Nat) (L st : List zV) (M : zM) : zEv ph d 325 1 L st M = zcont ph d 325 (zstep ph (zEm ph d) 2 2 0 [1] L st M) := zEv_step rfl
theorem e325_2 (ph : Bool) (d : Nat) (L st : List zV) (M : zM) : zEv ph d 325 2 L st M = zcont ph d 325 (zstep ph (zEm ph d) 0 3 0 [0] L st M) := zEv_step rfl
theorem e325_3 (ph : Bool) (d : Nat) (L st : List zV) (M : zM) : zEv ph d 325 3 L st M = zcont ph d 325 (zstep ph (zEm ph d) 70 6 326 [3, 1, 8] L st M) := zEv_step rfl
theorem e325_6 (ph : Bool) (d : Nat) (L st : List zV) (M : zM) : zEv ph d 325 6 L st M = zcont ph d 325 (zstep ph (zEm ph d) 80 7 0 [] L st M) := zEv_step rfl
theorem m326 (ph : Bool) (d : Nat) (a x0 p0 y0 p1 y1 : Int) (M : zM) : zEm ph (d + 1) 326 [(8, a, x0), (0, p0, y0), (0, p1, y1)] M = zEv ph d 326 0 [(8, a, x0), (0, p0, y0), (0, p1, y1)] [] M := rfl
theorem e326_0 (ph : Bool) (d : Nat) (L st : List zV) (M : zM) : zEv ph d 326 0 L st M = zcont ph d 326 (zstep ph (zEm ph d) 4 1 0 [0] L st M) := zEv_step rfl
theorem e326_1 (ph : Bool) (d : Nat) (L st : List zV) (M : zM) : zEv ph d 326 1 L st M = zcont ph d 326 (zstep ph (zEm ph d) 70 4 329 [1, 1, 8] L st M) := zEv_step rfl
theorem e326_4 (ph : Bool) (d : Nat) (L st : List zV) (M : zM) : zEv ph d 326 4 L st M = zcont ph d 326 (zstep ph (zEm ph d) 40 7 23 [] L st M) := zEv_step rfl
theorem e326_7 (ph : Bool) (d : Nat) (L st : List zV) (M : zM) : zEv ph d 326 7 L st M = zcont ph d 326 (zstep ph (zEm ph d) 4 8 0 [0] L st M) := zEv_step rfl
theorem e326_8 (ph : Bool) (d : Nat) (L st : List zV) (M : zM) : zEv ph d 326 8 L st M = zcont ph d 326 (zstep ph (zEm ph d) 98 11 0 [] L st M) := zEv_step rfl
theorem e326_11 (ph : Bool) (d : Nat) (L st : List zV) (M : zM) : zEv ph d 326 11 L st M = zcont ph d 326 (zstep ph (zEm ph d) 2 12 0 [1] L st M) := zEv_step rfl
theorem e326_12 (ph : Bool) (d : Nat) (L st : List zV) (M : zM) : zEv ph d 326 12 L st M = zcont ph d 326 (zstep ph (zEm ph d) 2 13 0 [2] L st M) := zEv_step rfl
theorem e326_13 (ph : Bool) (d : Nat) (L st : List zV) (M : zM) : zEv ph d 326 13 L st M = zcont ph d 326 (zstep ph (zEm ph d) 4 14 0 [0] L st M) := zEv_step rfl
theorem e326_14 (ph : Bool) (d : Nat) (L st : List zV) (M : zM) : zEv ph d 326 14 L st M = zcont ph d 326 (zstep ph (zEm ph d) 70 17 324 [1, 1, 8] L st M) := zEv_step rfl
theorem e326_17 (ph : Bool) (d : Nat) (L st : List zV) (M : zM) : zEv ph d 326 17 L st M = zcont ph d 326 (zstep ph (zEm ph d) 70 20 342 [4, 1, -1] L st M) := zEv_step rfl
theorem e326_20 (ph : Bool) (d : Nat) (L st : List zV) (M : zM) : zEv ph d 326 20 L st M = zcont ph d 326 (zstep ph (zEm ph d) 52 23 36 [] L st M) := zEv_step rfl
theorem e326_23 (ph : Bool) (d : Nat) (L st : List zV) (M : zM) : zEv ph d 326 23 L st M = zcont ph d 326 (zstep ph (zEm ph d) 4 24 0 [0] L st M) := zEv_step rfl
theorem e326_24 (ph : Bool) (d : Nat) (L st : List zV) (M : zM) : zEv ph d 326 24 L st M = zcont ph d 326 (zstep ph (zEm ph d) 98 27 0 [] L st M) := zEv_step rfl
theorem e326_27 (ph : Bool) (d : Nat) (L st : List zV) (M : zM) : zEv ph d 326 27 L st M = zcont ph d 326 (zstep ph (zEm ph d) 2 28 0 [1] L st M) := zEv_step rfl
theorem e326_28 (ph : Bool) (d : Nat) (L st : List zV) (M : zM) : zEv ph d 326 28 L st M = zcont ph d 326 (zstep ph (zEm ph d) 2 29 0 [2] L st M) := zEv_step rfl
theorem e326_29 (ph : Bool) (d : Nat) (L st : List zV) (M : zM) : zEv ph d 326 29 L st M = zcont ph d 326 (zstep ph (zEm ph d) 4 30 0 [0] L st M) := zEv_step rfl
theorem e326_30 (ph : Bool) (d : Nat) (L st : List zV) (M : zM) : zEv ph d 326 30 L st M = zcont ph d 326 (zstep ph (zEm ph d) 70 33 324 [1, 1, 8] L st M) := zEv_step rfl
theorem e326_33 (ph : Bool) (d : Nat) (L st : List zV) (M : zM) : zEv ph d 326 33 L st M = zcont ph d 326 (zstep ph (zEm ph d) 70 36 351 [4, 1, -1] L st M) := zEv_step rfl
theorem e326_36 (ph : Bool) (d : Nat) (L st : List zV) (M : zM) : zEv ph d 326 36 L st M = zcont ph d 326 (zstep ph (zEm ph d) 80 37 0 [] L st M) := zEv_step rfl
theorem m329 (ph : Bool) (d : Nat) (a x0 : Int) (M : zM) : zEm ph (d + 1) 329 [(8, a, x0)] M = zEv ph d 329 0 [(8, a, x0)] [] M := rfl
theorem e329_0 (ph : Bool) (d : Nat) (L st : List zV) (M : zM) : zEv ph d 329 0 L st M = zcont ph d 329 (zstep ph (zEm ph d) 0 3 0 [1] L st M) := zEv_step rfl
theorem e329_3 (ph : Bool) (d : Nat) (L st : List zV) (M : zM) : zEv ph d 329 3 L st M = zcont ph d 329 (zstep ph (zEm ph d) 40 6 17 [] L st M) := zEv_step rfl
theorem e329_6 (ph : Bool) (d : Nat) (L st : List zV) (M : zM) : zEv ph d 329 6 L st M = zcont ph d 329 (zstep ph (zEm ph d) 4 7 0 [0] L st M) := zEv_step rfl
theorem e329_7 (ph : Bool) (d : Nat) (L st : List zV) (M : zM) : zEv ph d 329 7 L st M = zcont ph d 329 (zstep ph (zEm ph d) 99 10 0 [] L st M) := zEv_step rfl
theorem e329_10 (ph : Bool) (d : Nat) (L st : List zV) (M : zM) : zEv ph d 329 10 L st M = zcont ph d 329 (zstep ph (zEm ph d) 41 13 17 [] L st M) := zEv_step rfl
theorem e329_13 (ph : Bool) (d : Nat) (L st : List zV) (M : zM) : zEv ph d 329 13 L st M = zcont ph d 329 (zstep ph (zEm ph d) 0 14 0 [1] L st M) := zEv_step rfl
theorem e329_14 (ph : Bool) (d : Nat) (L st : List zV) (M : zM) : zEv ph d 329 14 L st M = zcont ph d 329 (zstep ph (zEm ph d) 52 17 18 [] L st M) := zEv_step rfl
theorem e329_17 (ph : Bool) (d : Nat) (L st : List zV) (M : zM) : zEv ph d 329 17 L st M = zcont ph d 329 (zstep ph (zEm ph d) 0 18 0 [0] L st M) := zEv_step rfl
theorem e329_18 (ph : Bool) (d : Nat) (L st : List zV) (M : zM) : zEv ph d 329 18 L st M = zcont ph d 329 (zstep ph (zEm ph d) 80 19 0 [0, 1] L st M) := zEv_step rfl
theorem m341 (ph : Bool) (d : Nat) (p0 y0 : Int) (M : zM) : zEm ph (d + 1) 341 [(0, p0, y0)] M = zEv ph d 341 0 [(0, p0, y0)] [] M := rfl
theorem e341_0 (ph : Bool) (d : Nat) (L st : List zV) (M : zM) : zEv ph d 341 0 L st M = zcont ph d 341 (zstep ph (zEm ph d) 2 1 0 [0] L st M) := zEv_step rfl
theorem e341_1 (ph : Bool) (d : Nat) (L st : List zV) (M : zM) : zEv ph d 341 1 L st M = zcont ph d 341 (zstep ph (zEm ph d) 42 4 15 [] L st M) := zEv_step rfl
theorem e341_4 (ph : Bool) (d : Nat) (L st : List zV) (M : zM) : zEv ph d 341 4 L st M = zcont ph d 341 (zstep ph (zEm ph d) 2 5 0 [0] L st M) := zEv_step rfl
theorem e341_5 (ph : Bool) (d : Nat) (L st : List zV) (M : zM) : zEv ph d 341 5 L st M = zcont ph d 341 (zstep ph (zEm ph d) 0 8 0 [255] L st M) := zEv_step rfl
theorem e341_8 (ph : Bool) (d : Nat) (L st : List zV) (M : zM) : zEv ph d 341 8 L st M = zcont ph d 341 (zstep ph (zEm ph d) 50 11 15 [] L st M) := zEv_step rfl
theorem e341_11 (ph : Bool) (d : Nat) (L st : List zV) (M : zM) : zEv ph d 341 11 L st M = zcont ph d 341 (zstep ph (zEm ph d) 0 12 0 [1] L st M) := zEv_step rfl
theorem e341_12 (ph : Bool) (d : Nat) (L st : List zV) (M : zM) : zEv ph d 341 12 L st M = zcont ph d 341 (zstep ph (zEm ph d) 52 15 16 [] L st M) := zEv_step rfl
theorem e341_15 (ph : Bool) (d : Nat) (L st : List zV) (M : zM) : zEv ph d 341 15 L st M = zcont ph d 341 (zstep ph (zEm ph d) 0 16 0 [0] L st M) := zEv_step rfl
theorem e341_16 (ph : Bool) (d : Nat) (L st : List zV) (M : zM) : zEv ph d 341 16 L st M = zcont ph d 341 (zstep ph (zEm ph d) 80 17 0 [0, 1] L st M) := zEv_step rfl
theorem m342 (ph : Bool) (d : Nat) (p0 y0 p1 y1 p2 y2 p3 y3 : Int) (M : zM) : zEm ph (d + 1) 342 [(13, p0, y0), (0, p1, y1), (0, p2, y2), (0, p3, y3)] M = zEv ph d 342 0 [(13, p0, y0), (0, p1, y1), (0, p2, y2), (0, p3, y3)] [] M := rfl
theorem e342_0 (ph : Bool) (d : Nat) (L st : List zV) (M : zM) : zEv ph d 342 0 L st M = zcont ph d 342 (zstep ph (zEm ph d) 2 1 0 [1] L st M) := zEv_step rfl
theorem e342_1 (ph : Bool) (d : Nat) (L st : List zV) (M : zM) : zEv ph d 342 1 L st M = zcont ph d 342 (zstep ph (zEm ph d) 70 4 341 [1, 1, -1] L st M) := zEv_step rfl
theorem e342_4 (ph : Bool) (d : Nat) (L st : List zV) (M : zM) : zEv ph d 342 4 L st M = zcont ph d 342 (zstep ph (zEm ph d) 41 7 9 [] L st M) := zEv_step rfl
theorem e342_7 (ph : Bool) (d : Nat) (L st : List zV) (M : zM) : zEv ph d 342 7 L st M = zcont ph d 342 (zstep ph (zEm ph d) 0 8 0 [-1] L st M) := zEv_step rfl
theorem e342_8 (ph : Bool) (d : Nat) (L st : List zV) (M : zM) : zEv ph d 342 8 L st M = zcont ph d 342 (zstep ph (zEm ph d) 80 9 0 [] L st M) := zEv_step rfl
theorem e342_9 (ph : Bool) (d : Nat) (L st : List zV) (M : zM) : zEv ph d 342 9 L st M = zcont ph d 342 (zstep ph (zEm ph d) 2 10 0 [2] L st M) := zEv_step rfl
theorem e342_10 (ph : Bool) (d : Nat) (L st : List zV) (M : zM) : zEv ph d 342 10 L st M = zcont ph d 342 (zstep ph (zEm ph d) 0 11 0 [0] L st M) := zEv_step rfl
theorem e342_11 (ph : Bool) (d : Nat) (L st : List zV) (M : zM) : zEv ph d 342 11 L st M = zcont ph d 342 (zstep ph (zEm ph d) 71 14 0 [] L st M) := zEv_step rfl
theorem e342_14 (ph : Bool) (d : Nat) (L st : List zV) (M : zM) : zEv ph d 342 14 L st M = zcont ph d 342 (zstep ph (zEm ph d) 5 15 0 [2] L st M) := zEv_step rfl
theorem e342_15 (ph : Bool) (d : Nat) (L st : List zV) (M : zM) : zEv ph d 342 15 L st M = zcont ph d 342 (zstep ph (zEm ph d) 2 16 0 [3] L st M) := zEv_step rfl
theorem e342_16 (ph : Bool) (d : Nat) (L st : List zV) (M : zM) : zEv ph d 342 16 L st M = zcont ph d 342 (zstep ph (zEm ph d) 4 17 0 [0] L st M) := zEv_step rfl
theorem e342_17 (ph : Bool) (d : Nat) (L st : List zV) (M : zM) : zEv ph d 342 17 L st M = zcont ph d 342 (zstep ph (zEm ph d) 84 18 0 [] L st M) := zEv_step rfl
theorem e342_18 (ph : Bool) (d : Nat) (L st : List zV) (M : zM) : zEv ph d 342 18 L st M = zcont ph d 342 (zstep ph (zEm ph d) 72 21 0 [] L st M) := zEv_step rfl
theorem e342_21 (ph : Bool) (d : Nat) (L st : List zV) (M : zM) : zEv ph d 342 21 L st M = zcont ph d 342 (zstep ph (zEm ph d) 5 22 0 [3] L st M) := zEv_step rfl
theorem e342_22 (ph : Bool) (d : Nat) (L st : List zV) (M : zM) : zEv ph d 342 22 L st M = zcont ph d 342 (zstep ph (zEm ph d) 2 23 0 [2] L st M) := zEv_step rfl
theorem e342_23 (ph : Bool) (d : Nat) (L st : List zV) (M : zM) : zEv ph d 342 23 L st M = zcont ph d 342 (zstep ph (zEm ph d) 2 24 0 [3] L st M) := zEv_step rfl
theorem e342_24 (ph : Bool) (d : Nat) (L st : List zV) (M : zM) : zEv ph d 342 24 L st M = zcont ph d 342 (zstep ph (zEm ph d) 48 27 29 [] L st M) := zEv_step rfl
theorem e342_27 (ph : Bool) (d : Nat) (L st : List zV) (M : zM) : zEv ph d 342 27 L st M = zcont ph d 342 (zstep ph (zEm ph d) 0 28 0 [-1] L st M) := zEv_step rfl
theorem e342_28 (ph : Bool) (d : Nat) (L st : List zV) (M : zM) : zEv ph d 342 28 L st M = zcont ph d 342 (zstep ph (zEm ph d) 80 29 0 [] L st M) := zEv_step rfl
theorem e342_29 (ph : Bool) (d : Nat) (L st : List zV) (M : zM) : zEv ph d 342 29 L st M = zcont ph d 342 (zstep ph (zEm ph d) 4 30 0 [0] L st M) := zEv_step rfl
theorem e342_30 (ph : Bool) (d : Nat) (L st : List zV) (M : zM) : zEv ph d 342 30 L st M = zcont ph d 342 (zstep ph (zEm ph d) 2 31 0 [1] L st M) := zEv_step rfl
theorem e342_31 (ph : Bool) (d : Nat) (L st : List zV) (M : zM) : zEv ph d 342 31 L st M = zcont ph d 342 (zstep ph (zEm ph d) 2 32 0 [2] L st M) := zEv_step rfl
theorem e342_32 (ph : Bool) (d : Nat) (L st : List zV) (M : zM) : zEv ph d 342 32 L st M = zcont ph d 342 (zstep ph (zEm ph d) 2 33 0 [3] L st M) := zEv_step rfl
theorem e342_33 (ph : Bool) (d : Nat) (L st : List zV) (M : zM) : zEv ph d 342 33 L st M = zcont ph d 342 (zstep ph (zEm ph d) 70 36 343 [4, 1, -1] L st M) := zEv_step rfl
theorem e342_36 (ph : Bool) (d : Nat) (L st : List zV) (M : zM) : zEv ph d 342 36 L st M = zcont ph d 342 (zstep ph (zEm ph d) 80 37 0 [] L st M) := zEv_step rfl
theorem m343 (ph : Bool) (d : Nat) (p0 y0 p1 y1 p2 y2 p3 y3 : Int) (M : zM) : zEm ph (d + 1) 343 [(13, p0, y0), (0, p1, y1), (0, p2, y2), (0, p3, y3)] M = zEv ph d 343 0 [(13, p0, y0), (0, p1, y1), (0, p2, y2), (0, p3, y3), (3, 0, 0), (3, 0, 0)] [] M := rfl
theorem e343_0 (ph : Bool) (d : Nat) (L st : List zV) (M : zM) : zEv ph d 343 0 L st M = zcont ph d 343 (zstep ph (zEm ph d) 2 1 0 [1] L st M) := zEv_step rfl
theorem e343_1 (ph : Bool) (d : Nat) (L st : List zV) (M : zM) : zEv ph d 343 1 L st M = zcont ph d 343 (zstep ph (zEm ph d) 31 2 0 [] L st M) := zEv_step rfl
theorem e343_2 (ph : Bool) (d : Nat) (L st : List zV) (M : zM) : zEv ph d 343 2 L st M = zcont ph d 343 (zstep ph (zEm ph d) 5 4 0 [4] L st M) := zEv_step rfl
theorem e343_4 (ph : Bool) (d : Nat) (L st : List zV) (M : zM) : zEv ph d 343 4 L st M = zcont ph d 343 (zstep ph (zEm ph d) 2 5 0 [2] L st M) := zEv_step rfl
theorem e343_5 (ph : Bool) (d : Nat) (L st : List zV) (M : zM) : zEv ph d 343 5 L st M = zcont ph d 343 (zstep ph (zEm ph d) 5 7 0 [5] L st M) := zEv_step rfl
theorem e343_7 (ph : Bool) (d : Nat) (L st : List zV) (M : zM) : zEv ph d 343 7 L st M = zcont ph d 343 (zstep ph (zEm ph d) 2 9 0 [5] L st M) := zEv_step rfl
theorem e343_9 (ph : Bool) (d : Nat) (L st : List zV) (M : zM) : zEv ph d 343 9 L st M = zcont ph d 343 (zstep ph (zEm ph d) 2 10 0 [3] L st M) := zEv_step rfl
theorem e343_10 (ph : Bool) (d : Nat) (L st : List zV) (M : zM) : zEv ph d 343 10 L st M = zcont ph d 343 (zstep ph (zEm ph d) 49 13 31 [] L st M) := zEv_step rfl
theorem e343_13 (ph : Bool) (d : Nat) (L st : List zV) (M : zM) : zEv ph d 343 13 L st M = zcont ph d 343 (zstep ph (zEm ph d) 4 14 0 [0] L st M) := zEv_step rfl
theorem e343_14 (ph : Bool) (d : Nat) (L st : List zV) (M : zM) : zEv ph d 343 14 L st M = zcont ph d 343 (zstep ph (zEm ph d) 2 16 0 [5] L st M) := zEv_step rfl
theorem e343_16 (ph : Bool) (d : Nat) (L st : List zV) (M : zM) : zEv ph d 343 16 L st M = zcont ph d 343 (zstep ph (zEm ph d) 87 17 0 [] L st M) := zEv_step rfl
theorem e343_17 (ph : Bool) (d : Nat) (L st : List zV) (M : zM) : zEv ph d 343 17 L st M = zcont ph d 343 (zstep ph (zEm ph d) 2 19 0 [4] L st M) := zEv_step rfl
theorem e343_19 (ph : Bool) (d : Nat) (L st : List zV) (M : zM) : zEv ph d 343 19 L st M = zcont ph d 343 (zstep ph (zEm ph d) 47 22 25 [] L st M) := zEv_step rfl
theorem e343_22 (ph : Bool) (d : Nat) (L st : List zV) (M : zM) : zEv ph d 343 22 L st M = zcont ph d 343 (zstep ph (zEm ph d) 2 24 0 [5] L st M) := zEv_step rfl
theorem e343_24 (ph : Bool) (d : Nat) (L st : List zV) (M : zM) : zEv ph d 343 24 L st M = zcont ph d 343 (zstep ph (zEm ph d) 80 25 0 [] L st M) := zEv_step rfl
theorem e343_25 (ph : Bool) (d : Nat) (L st : List zV) (M : zM) : zEv ph d 343 25 L st M = zcont ph d 343 (zstep ph (zEm ph d) 8 28 0 [5, 1] L st M) := zEv_step rfl
theorem e343_28 (ph : Bool) (d : Nat) (L st : List zV) (M : zM) : zEv ph d 343 28 L st M = zcont ph d 343 (zstep ph (zEm ph d) 52 31 7 [] L st M) := zEv_step rfl
theorem e343_31 (ph : Bool) (d : Nat) (L st : List zV) (M : zM) : zEv ph d 343 31 L st M = zcont ph d 343 (zstep ph (zEm ph d) 0 32 0 [-1] L st M) := zEv_step rfl
theorem e343_32 (ph : Bool) (d : Nat) (L st : List zV) (M : zM) : zEv ph d 343 32 L st M = zcont ph d 343 (zstep ph (zEm ph d) 80 33 0 [] L st M) := zEv_step rfl
theorem m342t (ph : Bool) (d : Nat) (p0 y0 p1 y1 p2 y2 p3 y3 : Int) (M : zM) : zEm ph (d + 1) 342 [(9, p0, y0), (0, p1, y1), (0, p2, y2), (0, p3, y3)] M = zEv ph d 342 0 [(9, p0, y0), (0, p1, y1), (0, p2, y2), (0, p3, y3)] [] M := rfl
theorem m343t (ph : Bool) (d : Nat) (p0 y0 p1 y1 p2 y2 p3 y3 : Int) (M : zM) : zEm ph (d + 1) 343 [(9, p0, y0), (0, p1, y1), (0, p2, y2), (0, p3, y3)] M = zEv ph d 343 0 [(9, p0, y0), (0, p1, y1), (0, p2, y2), (0, p3, y3), (3, 0, 0), (3, 0, 0)] [] M := rfl
theorem zsta7 : zsta 9 7 0 = 59 ∧ zsta 9 7 1 = 60 ∧ zsta 9 7 2 = 61 ∧ zsta 9 7 3 = 62 ∧ zsta 9 7 4 = 40 ∧ zsta 9 7 5 = 41 ∧ zsta 9 7 6 = 46 := by decide
theorem s_ioc (d : Nat) (c y y2 y3 : Int) (M : zM) (c0 : 0 ≤ c) (c1 : c ≤ 255) : ∃ v, zEm true (d + 1) 343 [(9, 7, 7), (0, c, y), (0, 0, y2), (0, 7, y3)] M = some ((0, v, 0), M) ∧ -1 ≤ v ∧ v ≤ 6 ∧ (0 ≤ v ↔ isS c) := by
  have ht := zb8_t c0 c1
  obtain ⟨z0, z1, z2, z3, z4, z5, z6⟩ := zsta7
  unfold isS
  generalize hz : zb8 c = t at *
  by_cases h0 : t = 59
  · refine ⟨0, ?_, by omega, by omega, by omega⟩
    simp (disch := first | assumption | exact zrm0 | exact zrm1 _ | exact zrm2 _ _ | exact zrm3 _ _ _ | exact zrm4 _ _ _ _ | omega) only [m343, ↓k_dp, ↓k_dn, k_dp, k_dn, k_dT, k_dF, k_ip, k_in, if_true, if_false, ne_eq, not_true_eq_false, not_false_eq_true, Int.reduceAdd, zup_a, zup_e, zup_j, z32_id, k_il1, k_i2b, k_is4, k_il2, k_is5, k_il5, k_il3, k_icge, k_al0, k_bldZ, k_bldB, k_bldD, k_bldT, k_il4, k_icne, k_ri, k_inc5, k_goto, k_ic, e343_0, e343_1, e343_2, e343_4, e343_5, e343_7, e343_9, e343_10, e343_13, e343_14, e343_16, e343_17, e343_19, e343_22, e343_24, e343_25, e343_28, e343_31, e343_32, m343t, hz, z0, z1, z2, z3, z4, z5, z6]
  · skip
    by_cases h1 : t = 60
    · refine ⟨1, ?_, by omega, by omega, by omega⟩
      simp (disch := first | assumption | exact zrm0 | exact zrm1 _ | exact zrm2 _ _ | exact zrm3 _ _ _ | exact zrm4 _ _ _ _ | omega) only [m343, ↓k_dp, ↓k_dn, k_dp, k_dn, k_dT, k_dF, k_ip, k_in, if_true, if_false, ne_eq, not_true_eq_false, not_false_eq_true, Int.reduceAdd, zup_a, zup_e, zup_j, z32_id, k_il1, k_i2b, k_is4, k_il2, k_is5, k_il5, k_il3, k_icge, k_al0, k_bldZ, k_bldB, k_bldD, k_bldT, k_il4, k_icne, k_ri, k_inc5, k_goto, k_ic, e343_0, e343_1, e343_2, e343_4, e343_5, e343_7, e343_9, e343_10, e343_13, e343_14, e343_16, e343_17, e343_19, e343_22, e343_24, e343_25, e343_28, e343_31, e343_32, m343t, hz, z0, z1, z2, z3, z4, z5, z6]
    · skip
      by_cases h2 : t = 61
      · refine ⟨2, ?_, by omega, by omega, by omega⟩
        simp (disch := first | assumption | exact zrm0 | exact zrm1 _ | exact zrm2 _ _ | exact zrm3 _ _ _ | exact zrm4 _ _ _ _ | omega) only [m343, ↓k_dp, ↓k_dn, k_dp, k_dn, k_dT, k_dF, k_ip, k_in, if_true, if_false, ne_eq, not_true_eq_false, not_false_eq_true, Int.reduceAdd, zup_a, zup_e, zup_j, z32_id, k_il1, k_i2b, k_is4, k_il2, k_is5, k_il5, k_il3, k_icge, k_al0, k_bldZ, k_bldB, k_bldD, k_bldT, k_il4, k_icne, k_ri, k_inc5, k_goto, k_ic, e343_0, e343_1, e343_2, e343_4, e343_5, e343_7, e343_9, e343_10, e343_13, e343_14, e343_16, e343_17, e343_19, e343_22, e343_24, e343_25, e343_28, e343_31, e343_32, m343t, hz, z0, z1, z2, z3, z4, z5, z6]
      · skip
        by_cases h3 : t = 62
        · refine ⟨3, ?_, by omega, by omega, by omega⟩
          simp (disch := first | assumption | exact zrm0 | exact zrm1 _ | exact zrm2 _ _ | exact zrm3 _ _ _ | exact zrm4 _ _ _ _ | omega) only [m343, ↓k_dp, ↓k_dn, k_dp, k_dn, k_dT, k_dF, k_ip, k_in, if_true, if_false, ne_eq, not_true_eq_false, not_false_eq_true, Int.reduceAdd, zup_a, zup_e, zup_j, z32_id, k_il1, k_i2b, k_is4, k_il2, k_is5, k_il5, k_il3, k_icge, k_al0, k_bldZ, k_bldB, k_bldD, k_bldT, k_il4, k_icne, k_ri, k_inc5, k_goto, k_ic, e343_0, e343_1, e343_2, e343_4, e343_5, e343_7, e343_9, e343_10, e343_13, e343_14, e343_16, e343_17, e343_19, e343_22, e343_24, e343_25, e343_28, e343_31, e343_32, m343t, hz, z0, z1, z2, z3, z4, z5, z6]
        · skip
          by_cases h4 : t = 40
          · refine ⟨4, ?_, by omega, by omega, by omega⟩
            simp (disch := first | assumption | exact zrm0 | exact zrm1 _ | exact zrm2 _ _ | exact zrm3 _ _ _ | exact zrm4 _ _ _ _ | omega) only [m343, ↓k_dp, ↓k_dn, k_dp, k_dn, k_dT, k_dF, k_ip, k_in, if_true, if_false, ne_eq, not_true_eq_false, not_false_eq_true, Int.reduceAdd, zup_a, zup_e, zup_j, z32_id, k_il1, k_i2b, k_is4, k_il2, k_is5, k_il5, k_il3, k_icge, k_al0, k_bldZ, k_bldB, k_bldD, k_bldT, k_il4, k_icne, k_ri, k_inc5, k_goto, k_ic, e343_0, e343_1, e343_2, e343_4, e343_5, e343_7, e343_9, e343_10, e343_13, e343_14, e343_16, e343_17, e343_19, e343_22, e343_24, e343_25, e343_28, e343_31, e343_32, m343t, hz, z0, z1, z2, z3, z4, z5, z6]
          · skip
            by_cases h5 : t = 41
            · refine ⟨5, ?_, by omega, by omega, by omega⟩
              simp (disch := first | assumption | exact zrm0 | exact zrm1 _ | exact zrm2 _ _ | exact zrm3 _ _ _ | exact zrm4 _ _ _ _ | omega) only [m343, ↓k_dp, ↓k_dn, k_dp, k_dn, k_dT, k_dF, k_ip, k_in, if_true, if_false, ne_eq, not_true_eq_false, not_false_eq_true, Int.reduceAdd, zup_a, zup_e, zup_j, z32_id, k_il1, k_i2b, k_is4, k_il2, k_is5, k_il5, k_il3, k_icge, k_al0, k_bldZ, k_bldB, k_bldD, k_bldT, k_il4, k_icne, k_ri, k_inc5, k_goto, k_ic, e343_0, e343_1, e343_2, e343_4, e343_5, e343_7, e343_9, e343_10, e343_13, e343_14, e343_16, e343_17, e343_19, e343_22, e343_24, e343_25, e343_28, e343_31, e343_32, m343t, hz, z0, z1, z2, z3, z4, z5, z6]
            · skip
              by_cases h6 : t = 46
              · refine ⟨6, ?_, by omega, by omega, by omega⟩
                simp (disch := first | assumption | exact zrm0 | exact zrm1 _ | exact zrm2 _ _ | exact zrm3 _ _ _ | exact zrm4 _ _ _ _ | omega) only [m343, ↓k_dp, ↓k_dn, k_dp, k_dn, k_dT, k_dF, k_ip, k_in, if_true, if_false, ne_eq, not_true_eq_false, not_false_eq_true, Int.reduceAdd, zup_a, zup_e, zup_j, z32_id, k_il1, k_i2b, k_is4, k_il2, k_is5, k_il5, k_il3, k_icge, k_al0, k_bldZ, k_bldB, k_bldD, k_bldT, k_il4, k_icne, k_ri, k_inc5, k_goto, k_ic, e343_0, e343_1, e343_2, e343_4, e343_5, e343_7, e343_9, e343_10, e343_13, e343_14, e343_16, e343_17, e343_19, e343_22, e343_24, e343_25, e343_28, e343_31, e343_32, m343t, hz, z0, z1, z2, z3, z4, z5, z6]
              · skip
                refine ⟨-1, ?_, by omega, by omega, by omega⟩
                simp (disch := first | assumption | exact zrm0 | exact zrm1 _ | exact zrm2 _ _ | exact zrm3 _ _ _ | exact zrm4 _ _ _ _ | omega) only [m343, ↓k_dp, ↓k_dn, k_dp, k_dn, k_dT, k_dF, k_ip, k_in, if_true, if_false, ne_eq, not_true_eq_false, not_false_eq_true, Int.reduceAdd, zup_a, zup_e, zup_j, z32_id, k_il1, k_i2b, k_is4, k_il2, k_is5, k_il5, k_il3, k_icge, k_al0, k_bldZ, k_bldB, k_bldD, k_bldT, k_il4, k_icne, k_ri, k_inc5, k_goto, k_ic, e343_0, e343_1, e343_2, e343_4, e343_5, e343_7, e343_9, e343_10, e343_13, e343_14, e343_16, e343_17, e343_19, e343_22, e343_24, e343_25, e343_28, e343_31, e343_32, m343t, hz, z0, z1, z2, z3, z4, z5, z6]
theorem s_indexOf (d : Nat) (c y : Int) (M : zM) (c0 : 0 ≤ c) (c1 : c ≤ 255) : ∃ v, zEm true (d + 5) 325 [(8, 7, 7), (0, c, y)] M = some ((0, v, 0), M) ∧ -1 ≤ v ∧ v ≤ 6 ∧ (0 ≤ v ↔ isS c) := by
  obtain ⟨v, h1, h2, h3, h4⟩ := s_ioc (d + 1) c 0 0 0 M c0 c1
  refine ⟨v, ?_, h2, h3, h4⟩
  have hl := s_strlen (d + 1) 7 7 M (by omega) (by omega)
  have hi : zEm true (d + 3) 329 [(8, 7, 7)] M = some ((0, 1, 0), M) := by
    simp (disch := first | assumption | exact zrm0 | exact zrm1 _ | exact zrm2 _ _ | exact zrm3 _ _ _ | exact zrm4 _ _ _ _ | omega) only [m329, ↓k_dp, ↓k_dn, k_dp, k_dn, k_dT, k_dF, k_ip, k_in, if_true, if_false, ne_eq, not_true_eq_false, not_false_eq_true, Int.reduceAdd, zup_a, zup_e, zup_j, z32_id, k_ic, k_ifeq, k_al0, k_sc, k_ifne, k_goto, k_rz, e329_0, e329_3, e329_6, e329_7, e329_10, e329_13, e329_14, e329_17, e329_18]
  have he : ∀ y, zEm true (d + 2) 341 [(0, c, y)] M = some ((0, 1, 0), M) := fun y => by
    simp (disch := first | assumption | exact zrm0 | exact zrm1 _ | exact zrm2 _ _ | exact zrm3 _ _ _ | exact zrm4 _ _ _ _ | omega) only [m341, ↓k_dp, ↓k_dn, k_dp, k_dn, k_dT, k_dF, k_ip, k_in, if_true, if_false, ne_eq, not_true_eq_false, not_false_eq_true, Int.reduceAdd, zup_a, zup_e, zup_j, z32_id, k_il0, k_iflt, k_ic, k_icgt, k_goto, k_rz, e341_0, e341_1, e341_4, e341_5, e341_8, e341_11, e341_12, e341_15, e341_16]
  have h2 : zEm true (d + 3) 342 [(9, 7, 7), (0, c, 0), (0, 0, 0), (0, 7, 0)] M = some ((0, v, 0), M) := by
    simp (disch := first | assumption | exact zrm0 | exact zrm1 _ | exact zrm2 _ _ | exact zrm3 _ _ _ | exact zrm4 _ _ _ _ | omega) only [m342, ↓k_dp, ↓k_dn, k_dp, k_dn, k_dT, k_dF, k_ip, k_in, if_true, if_false, ne_eq, not_true_eq_false, not_false_eq_true, Int.reduceAdd, zup_a, zup_e, zup_j, z32_id, k_il1, k_s1r, k_ifne, k_ic, k_ri, k_il2, k_max, k_is2, k_il3, k_al0, k_len, k_min, k_is3, k_iclt, k_s4r, zb0_some, zb1_some, e342_0, e342_1, e342_4, e342_7, e342_8, e342_9, e342_10, e342_11, e342_14, e342_15, e342_16, e342_17, e342_18, e342_21, e342_22, e342_23, e342_24, e342_27, e342_28, e342_29, e342_30, e342_31, e342_32, e342_33, e342_36, m342t, he, h1]
  have h3 : zEm true (d + 4) 326 [(8, 7, 7), (0, c, 0), (0, 0, 0)] M = some ((0, v, 0), M) := by
    simp (disch := first | assumption | exact zrm0 | exact zrm1 _ | exact zrm2 _ _ | exact zrm3 _ _ _ | exact zrm4 _ _ _ _ | omega) only [m326, ↓k_dp, ↓k_dn, k_dp, k_dn, k_dT, k_dF, k_ip, k_in, if_true, if_false, ne_eq, not_true_eq_false, not_false_eq_true, Int.reduceAdd, zup_a, zup_e, zup_j, z32_id, k_al0, k_v1r, k_ifeq, k_sv, k_il1, k_il2, k_s4r, k_goto, k_ri, zb0_some, zb1_some, e326_0, e326_1, e326_4, e326_7, e326_8, e326_11, e326_12, e326_13, e326_14, e326_17, e326_20, e326_23, e326_24, e326_27, e326_28, e326_29, e326_30, e326_33, e326_36, hi, hl, h2]
  simp (disch := first | assumption | exact zrm0 | exact zrm1 _ | exact zrm2 _ _ | exact zrm3 _ _ _ | exact zrm4 _ _ _ _ | omega) only [m325, ↓k_dp, ↓k_dn, k_dp, k_dn, k_dT, k_dF, k_ip, k_in, if_true, if_false, ne_eq, not_true_eq_false, not_false_eq_true, Int.reduceAdd, zup_a, zup_e, zup_j, z32_id, k_al0, k_il1, k_ic, k_v3r, k_ri, zb0_some, zb1_some, e325_0, e325_1, e325_2, e325_3, e325_6, h3]
/-- the class's run of letters and digits of m places -/
theorem c_run (d : Nat) (x0 : Int) (A : zM) (s p : Int) (m : Nat) (hs : A 2 1 = s) (s1 : s ≤ 940) (p0 : 0 ≤ p) (m1 : 1 ≤ m) (he : p + m ≤ s) (ha : ∀ i, p ≤ i → i < p + m → isA (A 3 i)) (hend : p + m = s ∨ ¬ isA (A 3 (p + m))) (h3 : A 2 3 = p) (h6 : A 2 6 = 0) (h7 : A 2 7 = 1) (h8 : A 2 8 = 0) : ∃ A', zEm true (d + 2) 142 [(27, 2, x0)] A = some ((98, 0, 0), A') ∧ A' 2 3 = p + m ∧ (∀ x y, ¬ (x = 2 ∧ (y = 3 ∨ y = 5 ∨ y = 6 ∨ y = 7 ∨ y = 8)) → A' x y = A x y) ∧ (nLf (A 3) p m = m → m ≤ 8 → A' 2 5 = 2 ∧ A' 2 8 = V32 (RLf (A 3) p m) ∧ A' 2 7 = wcO (V32 (RLf (A 3) p m))) ∧ (nLf (A 3) p m = 0 → m ≤ 3 → A' 2 5 = 3 ∧ A' 2 6 = NLf (A 3) p m ∧ A' 2 7 = 1) ∧ (¬ (nLf (A 3) p m = m ∧ m ≤ 8) → ¬ (nLf (A 3) p m = 0 ∧ m ≤ 3) → A' 2 5 = 1 ∧ A' 2 7 = 1) := by
  obtain ⟨N, l3, E, hE, a1, i1, i2, i3, i4⟩ := c_run0 d x0 A s p (p + m) hs s1 p0 he ha hend m 0 (3, 0, 0) A (by omega) ⟨by omega, fun _ _ => h8, fun _ _ => h6, fun _ _ _ => rfl⟩
  have hEm : E = m := by omega
  subst hEm
  have a1' : zEv true (d + 1) 142 4 [(27, 2, x0), (0, 0, 0), (0, 0, 0), (3, 0, 0)] [] A = zEv true (d + 1) 142 131 [(27, 2, x0), (0, nLf (A 3) p E, 0), (0, E - nLf (A 3) p E, 0), l3] [] N := a1
  have hb := nLf_bd (f := A 3) (p := p) E
  have a0 : ∀ z, zEm true (d + 2) 142 [(27, 2, x0)] A = z ↔ zEv true (d + 1) 142 131 [(27, 2, x0), (0, nLf (A 3) p E, 0), (0, E - nLf (A 3) p E, 0), l3] [] N = z := fun z => by
    rw [← a1']
    simp (disch := first | assumption | exact zrm0 | exact zrm1 _ | exact zrm2 _ _ | exact zrm3 _ _ _ | exact zrm4 _ _ _ _ | omega) only [m142, ↓k_dp, ↓k_dn, k_dp, k_dn, k_dT, k_dF, k_ip, k_in, if_true, if_false, ne_eq, not_true_eq_false, not_false_eq_true, Int.reduceAdd, zup_a, zup_e, zup_j, z32_id, k_ic, k_is1, k_is2, k_al0, k_gI, k_icge, k_gR, k_ild, k_ildS, k_ildW, k_s1r, k_ifne, k_ifeq, k_is3, k_il3, k_inc2, k_il2, k_icgt, k_imul, k_iadd, k_isub, k_goto, k_pI, k_inc1, k_il1, k_gL, k_s2r, k_lc, k_pL, k_dup, k_pE, k_rv, zb0_some, zb1_some, e142_0, e142_1, e142_2, e142_3, e142_5, e142_8, e142_9, e142_12, e142_15, e142_16, e142_19, e142_20, e142_23, e142_24, e142_27, e142_30, e142_31, e142_34, e142_35, e142_38, e142_39, e142_42, e142_45, e142_46, e142_49, e142_50, e142_53, e142_54, e142_55, e142_56, e142_59, e142_62, e142_65, e142_66, e142_67, e142_68, e142_71, e142_72, e142_75, e142_77, e142_78, e142_79, e142_80, e142_82, e142_83, e142_86, e142_87, e142_90, e142_93, e142_96, e142_97, e142_98, e142_100, e142_103, e142_104, e142_107, e142_108, e142_111, e142_114, e142_115, e142_118, e142_119, e142_120, e142_123, e142_124, e142_125, e142_128, e142_131, e142_132, e142_135, e142_136, e142_138, e142_141, e142_142, e142_143, e142_146, e142_147, e142_148, e142_151, e142_154, e142_157, e142_160, e142_161, e142_164, e142_165, e142_166, e142_169, e142_170, e142_171, e142_174, e142_177, e142_178, e142_179, e142_182]
  generalize hn : nLf (A 3) p E = n at *
  have h7' : N 2 7 = 1 := by rw [i4 _ _ (by omega)]; exact h7
  by_cases c1 : n = E ∧ (E : Int) ≤ 8
  · have e8 := i2 c1.1 (by omega)
    refine ⟨zup (zup N 2 5 2) 2 7 (wcO (V32 (RLf (A 3) p E))), (a0 _).2 ?_, ?_, fun x y h => ?_, fun _ _ => ⟨?_, ?_, ?_⟩, fun h _ => by omega, fun h => by omega⟩
    · have hw := s_of (d + 0) (V32 (RLf (A 3) p E)) 0 (zup N 2 5 2)
      simp (disch := first | assumption | exact zrm0 | exact zrm1 _ | exact zrm2 _ _ | exact zrm3 _ _ _ | exact zrm4 _ _ _ _ | omega) only [m142, ↓k_dp, ↓k_dn, k_dp, k_dn, k_dT, k_dF, k_ip, k_in, if_true, if_false, ne_eq, not_true_eq_false, not_false_eq_true, Int.reduceAdd, zup_a, zup_e, zup_j, z32_id, k_ic, k_is1, k_is2, k_al0, k_gI, k_icge, k_gR, k_ild, k_ildS, k_ildW, k_s1r, k_ifne, k_ifeq, k_is3, k_il3, k_inc2, k_il2, k_icgt, k_imul, k_iadd, k_isub, k_goto, k_pI, k_inc1, k_il1, k_gL, k_s2r, k_lc, k_pL, k_dup, k_pE, k_rv, zb0_some, zb1_some, e142_0, e142_1, e142_2, e142_3, e142_4, e142_5, e142_8, e142_9, e142_12, e142_15, e142_16, e142_19, e142_20, e142_23, e142_24, e142_27, e142_30, e142_31, e142_34, e142_35, e142_38, e142_39, e142_42, e142_45, e142_46, e142_49, e142_50, e142_53, e142_54, e142_55, e142_56, e142_59, e142_62, e142_65, e142_66, e142_67, e142_68, e142_71, e142_72, e142_75, e142_77, e142_78, e142_79, e142_80, e142_82, e142_83, e142_86, e142_87, e142_90, e142_93, e142_96, e142_97, e142_98, e142_100, e142_103, e142_104, e142_107, e142_108, e142_111, e142_114, e142_115, e142_118, e142_119, e142_120, e142_123, e142_124, e142_125, e142_128, e142_131, e142_132, e142_135, e142_136, e142_138, e142_141, e142_142, e142_143, e142_146, e142_147, e142_148, e142_151, e142_154, e142_157, e142_160, e142_161, e142_164, e142_165, e142_166, e142_169, e142_170, e142_171, e142_174, e142_177, e142_178, e142_179, e142_182, e8, hw]
    · rw [zup_j (by omega), zup_j (by omega)]; exact i1
    · rw [zup_f (by omega), zup_f (by omega)]
      exact i4 x y (by omega)
    · rw [zup_j (by omega), zup_e (by omega)]
    · rw [zup_j (by omega), zup_j (by omega)]; exact e8
    · rw [zup_e (by omega)]
  · by_cases c2 : n = 0 ∧ (E : Int) ≤ 3
    · have e6 := i3 c2.1 (by omega)
      refine ⟨zup N 2 5 3, (a0 _).2 ?_, ?_, fun x y h => ?_, fun _ _ => by omega, fun _ _ => ⟨?_, ?_, ?_⟩, fun _ h => by omega⟩
      · have c3 : E - n ≠ 0 := by omega
        simp (disch := first | assumption | exact zrm0 | exact zrm1 _ | exact zrm2 _ _ | exact zrm3 _ _ _ | exact zrm4 _ _ _ _ | omega) only [m142, ↓k_dp, ↓k_dn, k_dp, k_dn, k_dT, k_dF, k_ip, k_in, if_true, if_false, ne_eq, not_true_eq_false, not_false_eq_true, Int.reduceAdd, zup_a, zup_e, zup_j, z32_id, k_ic, k_is1, k_is2, k_al0, k_gI, k_icge, k_gR, k_ild, k_ildS, k_ildW, k_s1r, k_ifne, k_ifeq, k_is3, k_il3, k_inc2, k_il2, k_icgt, k_imul, k_iadd, k_isub, k_goto, k_pI, k_inc1, k_il1, k_gL, k_s2r, k_lc, k_pL, k_dup, k_pE, k_rv, zb0_some, zb1_some, e142_0, e142_1, e142_2, e142_3, e142_4, e142_5, e142_8, e142_9, e142_12, e142_15, e142_16, e142_19, e142_20, e142_23, e142_24, e142_27, e142_30, e142_31, e142_34, e142_35, e142_38, e142_39, e142_42, e142_45, e142_46, e142_49, e142_50, e142_53, e142_54, e142_55, e142_56, e142_59, e142_62, e142_65, e142_66, e142_67, e142_68, e142_71, e142_72, e142_75, e142_77, e142_78, e142_79, e142_80, e142_82, e142_83, e142_86, e142_87, e142_90, e142_93, e142_96, e142_97, e142_98, e142_100, e142_103, e142_104, e142_107, e142_108, e142_111, e142_114, e142_115, e142_118, e142_119, e142_120, e142_123, e142_124, e142_125, e142_128, e142_131, e142_132, e142_135, e142_136, e142_138, e142_141, e142_142, e142_143, e142_146, e142_147, e142_148, e142_151, e142_154, e142_157, e142_160, e142_161, e142_164, e142_165, e142_166, e142_169, e142_170, e142_171, e142_174, e142_177, e142_178, e142_179, e142_182]
      · rw [zup_j (by omega)]; exact i1
      · rw [zup_f (by omega)]
        exact i4 x y (by omega)
      · rw [zup_e (by omega)]
      · rw [zup_j (by omega)]; exact e6
      · rw [zup_j (by omega)]; exact h7'
    · refine ⟨zup N 2 5 1, (a0 _).2 ?_, ?_, fun x y h => ?_, fun _ _ => by omega, fun _ _ => by omega, fun _ _ => ⟨?_, ?_⟩⟩
      · by_cases c3 : E - n = 0
        · simp (disch := first | assumption | exact zrm0 | exact zrm1 _ | exact zrm2 _ _ | exact zrm3 _ _ _ | exact zrm4 _ _ _ _ | omega) only [m142, ↓k_dp, ↓k_dn, k_dp, k_dn, k_dT, k_dF, k_ip, k_in, if_true, if_false, ne_eq, not_true_eq_false, not_false_eq_true, Int.reduceAdd, zup_a, zup_e, zup_j, z32_id, k_ic, k_is1, k_is2, k_al0, k_gI, k_icge, k_gR, k_ild, k_ildS, k_ildW, k_s1r, k_ifne, k_ifeq, k_is3, k_il3, k_inc2, k_il2, k_icgt, k_imul, k_iadd, k_isub, k_goto, k_pI, k_inc1, k_il1, k_gL, k_s2r, k_lc, k_pL, k_dup, k_pE, k_rv, zb0_some, zb1_some, e142_0, e142_1, e142_2, e142_3, e142_4, e142_5, e142_8, e142_9, e142_12, e142_15, e142_16, e142_19, e142_20, e142_23, e142_24, e142_27, e142_30, e142_31, e142_34, e142_35, e142_38, e142_39, e142_42, e142_45, e142_46, e142_49, e142_50, e142_53, e142_54, e142_55, e142_56, e142_59, e142_62, e142_65, e142_66, e142_67, e142_68, e142_71, e142_72, e142_75, e142_77, e142_78, e142_79, e142_80, e142_82, e142_83, e142_86, e142_87, e142_90, e142_93, e142_96, e142_97, e142_98, e142_100, e142_103, e142_104, e142_107, e142_108, e142_111, e142_114, e142_115, e142_118, e142_119, e142_120, e142_123, e142_124, e142_125, e142_128, e142_131, e142_132, e142_135, e142_136, e142_138, e142_141, e142_142, e142_143, e142_146, e142_147, e142_148, e142_151, e142_154, e142_157, e142_160, e142_161, e142_164, e142_165, e142_166, e142_169, e142_170, e142_171, e142_174, e142_177, e142_178, e142_179, e142_182]
        · by_cases c4 : n = 0
          · simp (disch := first | assumption | exact zrm0 | exact zrm1 _ | exact zrm2 _ _ | exact zrm3 _ _ _ | exact zrm4 _ _ _ _ | omega) only [m142, ↓k_dp, ↓k_dn, k_dp, k_dn, k_dT, k_dF, k_ip, k_in, if_true, if_false, ne_eq, not_true_eq_false, not_false_eq_true, Int.reduceAdd, zup_a, zup_e, zup_j, z32_id, k_ic, k_is1, k_is2, k_al0, k_gI, k_icge, k_gR, k_ild, k_ildS, k_ildW, k_s1r, k_ifne, k_ifeq, k_is3, k_il3, k_inc2, k_il2, k_icgt, k_imul, k_iadd, k_isub, k_goto, k_pI, k_inc1, k_il1, k_gL, k_s2r, k_lc, k_pL, k_dup, k_pE, k_rv, zb0_some, zb1_some, e142_0, e142_1, e142_2, e142_3, e142_4, e142_5, e142_8, e142_9, e142_12, e142_15, e142_16, e142_19, e142_20, e142_23, e142_24, e142_27, e142_30, e142_31, e142_34, e142_35, e142_38, e142_39, e142_42, e142_45, e142_46, e142_49, e142_50, e142_53, e142_54, e142_55, e142_56, e142_59, e142_62, e142_65, e142_66, e142_67, e142_68, e142_71, e142_72, e142_75, e142_77, e142_78, e142_79, e142_80, e142_82, e142_83, e142_86, e142_87, e142_90, e142_93, e142_96, e142_97, e142_98, e142_100, e142_103, e142_104, e142_107, e142_108, e142_111, e142_114, e142_115, e142_118, e142_119, e142_120, e142_123, e142_124, e142_125, e142_128, e142_131, e142_132, e142_135, e142_136, e142_138, e142_141, e142_142, e142_143, e142_146, e142_147, e142_148, e142_151, e142_154, e142_157, e142_160, e142_161, e142_164, e142_165, e142_166, e142_169, e142_170, e142_171, e142_174, e142_177, e142_178, e142_179, e142_182]
          · simp (disch := first | assumption | exact zrm0 | exact zrm1 _ | exact zrm2 _ _ | exact zrm3 _ _ _ | exact zrm4 _ _ _ _ | omega) only [m142, ↓k_dp, ↓k_dn, k_dp, k_dn, k_dT, k_dF, k_ip, k_in, if_true, if_false, ne_eq, not_true_eq_false, not_false_eq_true, Int.reduceAdd, zup_a, zup_e, zup_j, z32_id, k_ic, k_is1, k_is2, k_al0, k_gI, k_icge, k_gR, k_ild, k_ildS, k_ildW, k_s1r, k_ifne, k_ifeq, k_is3, k_il3, k_inc2, k_il2, k_icgt, k_imul, k_iadd, k_isub, k_goto, k_pI, k_inc1, k_il1, k_gL, k_s2r, k_lc, k_pL, k_dup, k_pE, k_rv, zb0_some, zb1_some, e142_0, e142_1, e142_2, e142_3, e142_4, e142_5, e142_8, e142_9, e142_12, e142_15, e142_16, e142_19, e142_20, e142_23, e142_24, e142_27, e142_30, e142_31, e142_34, e142_35, e142_38, e142_39, e142_42, e142_45, e142_46, e142_49, e142_50, e142_53, e142_54, e142_55, e142_56, e142_59, e142_62, e142_65, e142_66, e142_67, e142_68, e142_71, e142_72, e142_75, e142_77, e142_78, e142_79, e142_80, e142_82, e142_83, e142_86, e142_87, e142_90, e142_93, e142_96, e142_97, e142_98, e142_100, e142_103, e142_104, e142_107, e142_108, e142_111, e142_114, e142_115, e142_118, e142_119, e142_120, e142_123, e142_124, e142_125, e142_128, e142_131, e142_132, e142_135, e142_136, e142_138, e142_141, e142_142, e142_143, e142_146, e142_147, e142_148, e142_151, e142_154, e142_157, e142_160, e142_161, e142_164, e142_165, e142_166, e142_169, e142_170, e142_171, e142_174, e142_177, e142_178, e142_179, e142_182]
      · rw [zup_j (by omega)]; exact i1
      · rw [zup_f (by omega)]
        exact i4 x y (by omega)
      · rw [zup_e (by omega)]
      · rw [zup_j (by omega)]; exact h7'
/-! the class's advance -/
theorem c_adv0 (d : Nat) (x0 : Int) (A : zM) (s p e : Int) (h1 : A 2 1 = s) (h3 : A 2 3 = p) (s1 : s ≤ 940) (p0 : 0 ≤ p) (pe : p ≤ e) (es : e ≤ s) (hb : ∀ i, p ≤ i → i < e → isB (A 3 i)) (hend : e = s ∨ ¬ isB (A 3 e)) : ∃ A1, zEm true (d + 1) 141 [(27, 2, x0)] A = zEv true d 141 74 [(27, 2, x0), (3, 0, 0)] [] A1 ∧ A1 2 3 = e ∧ A1 2 7 = 1 ∧ A1 2 8 = 0 ∧ A1 2 6 = 0 ∧ A1 2 9 = -1 ∧ ∀ x y, ¬ (x = 2 ∧ (y = 3 ∨ y = 6 ∨ y = 7 ∨ y = 8 ∨ y = 9)) → A1 x y = A x y := by
  obtain ⟨B, hB⟩ : ∃ B, B = zup (zup (zup (zup A 2 7 1) 2 8 0) 2 6 0) 2 9 (-1) := ⟨_, rfl⟩
  have hB3 : ∀ i, B 3 i = A 3 i := fun i => by
    rw [hB, zup_a (by omega), zup_a (by omega), zup_a (by omega), zup_a (by omega)]
  obtain ⟨n, hn⟩ := Int.eq_ofNat_of_zero_le (show 0 ≤ e - p by omega)
  obtain ⟨N, a1, a2, a3⟩ := c_skip d x0 B s e (by rw [hB, zup_j (by omega), zup_j (by omega), zup_j (by omega), zup_j (by omega)]; exact h1) s1 es (by rw [hB3]; exact hend) n p B (by omega) p0 (fun i i0 i1 => by rw [hB3]; exact hb i i0 i1) (by rw [hB, zup_j (by omega), zup_j (by omega), zup_j (by omega), zup_j (by omega)]; exact h3) (fun _ _ _ => rfl)
  refine ⟨N, ?_, a2, ?_, ?_, ?_, ?_, fun x y h => ?_⟩
  · rw [← a1, hB]
    simp (disch := first | assumption | exact zrm0 | exact zrm1 _ | exact zrm2 _ _ | exact zrm3 _ _ _ | exact zrm4 _ _ _ _ | omega) only [m141, ↓k_dp, ↓k_dn, k_dp, k_dn, k_dT, k_dF, k_ip, k_in, if_true, if_false, ne_eq, not_true_eq_false, not_false_eq_true, Int.reduceAdd, zup_a, zup_e, zup_j, z32_id, k_al0, k_en, k_pE, k_lc, k_pL, k_ic, k_pI, k_gI, k_icge, k_gR, k_ild, k_ildS, k_ildW, k_iceq, k_icne, k_dup, k_iadd, k_goto, k_iclt, k_min, k_rv, k_s1r, k_ifne, k_ifeq, k_v1, k_str, k_i2c, k_v2r, k_iflt, k_is1, k_il1, zb0_some, zb1_some, e141_0, e141_1, e141_4, e141_7, e141_8, e141_9, e141_12, e141_13, e141_14, e141_17, e141_18, e141_19, e141_23, e141_26, e141_27, e141_30, e141_33, e141_34, e141_37, e141_38, e141_41, e141_42, e141_44, e141_47, e141_48, e141_51, e141_52, e141_55, e141_56, e141_58, e141_61, e141_62, e141_63, e141_66, e141_67, e141_68, e141_71, e141_75, e141_78, e141_79, e141_82, e141_85, e141_86, e141_89, e141_90, e141_93, e141_96, e141_97, e141_98, e141_101, e141_102, e141_103, e141_106, e141_107, e141_110, e141_113, e141_116, e141_117, e141_118, e141_119, e141_122, e141_125, e141_126, e141_129, e141_130, e141_133, e141_134, e141_137, e141_140, e141_141, e141_144, e141_145, e141_148, e141_149, e141_152, e141_155, e141_156, e141_159, e141_160, e141_162, e141_163, e141_166, e141_167, e141_170, e141_171, e141_172, e141_175, e141_178, e141_179, e141_182, e141_183, e141_184, e141_185, e141_186, e141_189, e141_190, e141_193, e141_194, e141_197, e141_198, e141_199, e141_202, e141_203, e141_206, e141_207, e141_210, e141_211, e141_214, e141_215, e141_218, e141_219, e141_220, e141_223, e141_224, e141_225, e141_228]
  · rw [a3 _ _ (by omega), hB, zup_j (by omega), zup_j (by omega), zup_j (by omega), zup_e (by omega)]
  · rw [a3 _ _ (by omega), hB, zup_j (by omega), zup_j (by omega), zup_e (by omega)]
  · rw [a3 _ _ (by omega), hB, zup_j (by omega), zup_e (by omega)]
  · rw [a3 _ _ (by omega), hB, zup_e (by omega)]
  · rw [a3 _ _ (by omega), hB, zup_f (by omega), zup_f (by omega), zup_f (by omega), zup_f (by omega)]
def agA (A A' : zM) : Prop := ∀ x y, ¬ (x = 2 ∧ 3 ≤ y ∧ y ≤ 9) → A' x y = A x y
/-- at the end -/
theorem c_adv1 (d : Nat) (x0 : Int) (A : zM) (s l p e : Int) (h1 : A 2 1 = s) (h2 : A 2 2 = l) (h3 : A 2 3 = p) (s1 : s ≤ 940) (p0 : 0 ≤ p) (pe : p ≤ e) (es : e ≤ s) (hb : ∀ i, p ≤ i → i < e → isB (A 3 i)) (hend : e = s ∨ ¬ isB (A 3 e)) (c : s ≤ e ∨ l ≤ e) : ∃ A', zEm true (d + 6) 141 [(27, 2, x0)] A = some ((98, 0, 0), A') ∧ agA A A' ∧ A' 2 3 = e ∧ A' 2 4 = (if l < s then l else s) ∧ A' 2 5 = 0 ∧ A' 2 7 = 1 ∧ A' 2 9 = -1 := by
  obtain ⟨N, a1, a2, a3, a4, a5, a6, a7⟩ := c_adv0 (d + 5) x0 A s p e h1 h3 s1 p0 pe es hb hend
  have k1 : N 2 1 = s := by rw [a7 _ _ (by omega)]; exact h1
  have k2 : N 2 2 = l := by rw [a7 _ _ (by omega)]; exact h2
  refine ⟨zup (zup N 2 5 0) 2 4 (if l < s then l else s), a1.trans ?_, fun x y h => ?_, ?_, ?_, ?_, ?_, ?_⟩
  · by_cases c1 : s ≤ e
    · simp (disch := first | assumption | exact zrm0 | exact zrm1 _ | exact zrm2 _ _ | exact zrm3 _ _ _ | exact zrm4 _ _ _ _ | omega) only [m141, ↓k_dp, ↓k_dn, k_dp, k_dn, k_dT, k_dF, k_ip, k_in, if_true, if_false, ne_eq, not_true_eq_false, not_false_eq_true, Int.reduceAdd, zup_a, zup_e, zup_j, z32_id, k_al0, k_en, k_pE, k_lc, k_pL, k_ic, k_pI, k_gI, k_icge, k_gR, k_ild, k_ildS, k_ildW, k_iceq, k_icne, k_dup, k_iadd, k_goto, k_iclt, k_min, k_rv, k_s1r, k_ifne, k_ifeq, k_v1, k_str, k_i2c, k_v2r, k_iflt, k_is1, k_il1, zb0_some, zb1_some, e141_0, e141_1, e141_4, e141_7, e141_8, e141_9, e141_12, e141_13, e141_14, e141_17, e141_18, e141_19, e141_22, e141_23, e141_26, e141_27, e141_30, e141_33, e141_34, e141_37, e141_38, e141_41, e141_42, e141_44, e141_47, e141_48, e141_51, e141_52, e141_55, e141_56, e141_58, e141_61, e141_62, e141_63, e141_66, e141_67, e141_68, e141_71, e141_74, e141_75, e141_78, e141_79, e141_82, e141_85, e141_86, e141_89, e141_90, e141_93, e141_96, e141_97, e141_98, e141_101, e141_102, e141_103, e141_106, e141_107, e141_110, e141_113, e141_116, e141_117, e141_118, e141_119, e141_122, e141_125, e141_126, e141_129, e141_130, e141_133, e141_134, e141_137, e141_140, e141_141, e141_144, e141_145, e141_148, e141_149, e141_152, e141_155, e141_156, e141_159, e141_160, e141_162, e141_163, e141_166, e141_167, e141_170, e141_171, e141_172, e141_175, e141_178, e141_179, e141_182, e141_183, e141_184, e141_185, e141_186, e141_189, e141_190, e141_193, e141_194, e141_197, e141_198, e141_199, e141_202, e141_203, e141_206, e141_207, e141_210, e141_211, e141_214, e141_215, e141_218, e141_219, e141_220, e141_223, e141_224, e141_225, e141_228, a2, k1, k2]
    · simp (disch := first | assumption | exact zrm0 | exact zrm1 _ | exact zrm2 _ _ | exact zrm3 _ _ _ | exact zrm4 _ _ _ _ | omega) only [m141, ↓k_dp, ↓k_dn, k_dp, k_dn, k_dT, k_dF, k_ip, k_in, if_true, if_false, ne_eq, not_true_eq_false, not_false_eq_true, Int.reduceAdd, zup_a, zup_e, zup_j, z32_id, k_al0, k_en, k_pE, k_lc, k_pL, k_ic, k_pI, k_gI, k_icge, k_gR, k_ild, k_ildS, k_ildW, k_iceq, k_icne, k_dup, k_iadd, k_goto, k_iclt, k_min, k_rv, k_s1r, k_ifne, k_ifeq, k_v1, k_str, k_i2c, k_v2r, k_iflt, k_is1, k_il1, zb0_some, zb1_some, e141_0, e141_1, e141_4, e141_7, e141_8, e141_9, e141_12, e141_13, e141_14, e141_17, e141_18, e141_19, e141_22, e141_23, e141_26, e141_27, e141_30, e141_33, e141_34, e141_37, e141_38, e141_41, e141_42, e141_44, e141_47, e141_48, e141_51, e141_52, e141_55, e141_56, e141_58, e141_61, e141_62, e141_63, e141_66, e141_67, e141_68, e141_71, e141_74, e141_75, e141_78, e141_79, e141_82, e141_85, e141_86, e141_89, e141_90, e141_93, e141_96, e141_97, e141_98, e141_101, e141_102, e141_103, e141_106, e141_107, e141_110, e141_113, e141_116, e141_117, e141_118, e141_119, e141_122, e141_125, e141_126, e141_129, e141_130, e141_133, e141_134, e141_137, e141_140, e141_141, e141_144, e141_145, e141_148, e141_149, e141_152, e141_155, e141_156, e141_159, e141_160, e141_162, e141_163, e141_166, e141_167, e141_170, e141_171, e141_172, e141_175, e141_178, e141_179, e141_182, e141_183, e141_184, e141_185, e141_186, e141_189, e141_190, e141_193, e141_194, e141_197, e141_198, e141_199, e141_202, e141_203, e141_206, e141_207, e141_210, e141_211, e141_214, e141_215, e141_218, e141_219, e141_220, e141_223, e141_224, e141_225, e141_228, a2, k1, k2]
  · rw [zup_f (by omega), zup_f (by omega)]
    exact a7 x y (by omega)
  · rw [zup_j (by omega), zup_j (by omega)]; exact a2
  · rw [zup_e (by omega)]
  · rw [zup_j (by omega), zup_e (by omega)]
  · rw [zup_j (by omega), zup_j (by omega)]; exact a3
  · rw [zup_j (by omega), zup_j (by omega)]; exact a6
/-- a sign, or nothing known -/
theorem c_adv2 (d : Nat) (x0 : Int) (A : zM) (s l p e : Int) (h1 : A 2 1 = s) (h2 : A 2 2 = l) (h3 : A 2 3 = p) (s1 : s ≤ 940) (p0 : 0 ≤ p) (pe : p ≤ e) (es : e < s) (hb : ∀ i, p ≤ i → i < e → isB (A 3 i)) (hend : ¬ isB (A 3 e)) (el : e < l) (hA : ¬ isA (A 3 e)) (b0 : 0 ≤ A 3 e) (b1 : A 3 e ≤ 255) : ∃ A', zEm true (d + 6) 141 [(27, 2, x0)] A = some ((98, 0, 0), A') ∧ agA A A' ∧ A' 2 3 = e + 1 ∧ A' 2 4 = e ∧ A' 2 7 = 1 ∧ (isS (A 3 e) → A' 2 5 = 4 ∧ A' 2 9 = A 3 e) ∧ (¬ isS (A 3 e) → A' 2 5 = 1 ∧ A' 2 9 = -1) := by
  obtain ⟨N, a1, a2, a3, a4, a5, a6, a7⟩ := c_adv0 (d + 5) x0 A s p e h1 h3 s1 p0 pe (by omega) hb (Or.inr hend)
  have k1 : N 2 1 = s := by rw [a7 _ _ (by omega)]; exact h1
  have k2 : N 2 2 = l := by rw [a7 _ _ (by omega)]; exact h2
  have k3 : N 3 e = A 3 e := a7 _ _ (by omega)
  have hz := zc16_t b0 b1
  have n1 : ¬ (97 ≤ A 3 e ∧ A 3 e ≤ 122) := fun h => hA (Or.inl h)
  have n2 : ¬ (48 ≤ A 3 e ∧ A 3 e ≤ 57) := fun h => hA (Or.inr h)
  obtain ⟨v, v1, v2, v3, v4⟩ := s_indexOf d (A 3 e) 0 (zup N 2 4 e) b0 b1
  by_cases c : isS (A 3 e)
  · have c0 := v4.2 c
    refine ⟨zup (zup (zup (zup N 2 4 e) 2 5 4) 2 9 (A 3 e)) 2 3 (e + 1), a1.trans ?_, fun x y h => ?_, ?_, ?_, ?_, fun _ => ⟨?_, ?_⟩, fun h => absurd c h⟩
    · simp (disch := first | assumption | exact zrm0 | exact zrm1 _ | exact zrm2 _ _ | exact zrm3 _ _ _ | exact zrm4 _ _ _ _ | omega) only [m141, ↓k_dp, ↓k_dn, k_dp, k_dn, k_dT, k_dF, k_ip, k_in, if_true, if_false, ne_eq, not_true_eq_false, not_false_eq_true, Int.reduceAdd, zup_a, zup_e, zup_j, z32_id, k_al0, k_en, k_pE, k_lc, k_pL, k_ic, k_pI, k_gI, k_icge, k_gR, k_ild, k_ildS, k_ildW, k_iceq, k_icne, k_dup, k_iadd, k_goto, k_iclt, k_min, k_rv, k_s1r, k_ifne, k_ifeq, k_v1, k_str, k_i2c, k_v2r, k_iflt, k_is1, k_il1, zb0_some, zb1_some, e141_0, e141_1, e141_4, e141_7, e141_8, e141_9, e141_12, e141_13, e141_14, e141_17, e141_18, e141_19, e141_22, e141_23, e141_26, e141_27, e141_30, e141_33, e141_34, e141_37, e141_38, e141_41, e141_42, e141_44, e141_47, e141_48, e141_51, e141_52, e141_55, e141_56, e141_58, e141_61, e141_62, e141_63, e141_66, e141_67, e141_68, e141_71, e141_74, e141_75, e141_78, e141_79, e141_82, e141_85, e141_86, e141_89, e141_90, e141_93, e141_96, e141_97, e141_98, e141_101, e141_102, e141_103, e141_106, e141_107, e141_110, e141_113, e141_116, e141_117, e141_118, e141_119, e141_122, e141_125, e141_126, e141_129, e141_130, e141_133, e141_134, e141_137, e141_140, e141_141, e141_144, e141_145, e141_148, e141_149, e141_152, e141_155, e141_156, e141_159, e141_160, e141_162, e141_163, e141_166, e141_167, e141_170, e141_171, e141_172, e141_175, e141_178, e141_179, e141_182, e141_183, e141_184, e141_185, e141_186, e141_189, e141_190, e141_193, e141_194, e141_197, e141_198, e141_199, e141_202, e141_203, e141_206, e141_207, e141_210, e141_211, e141_214, e141_215, e141_218, e141_219, e141_220, e141_223, e141_224, e141_225, e141_228, a2, k1, k2, k3, s_isLetter, s_isDigit, if_neg n1, if_neg n2, hz, v1]
    · rw [zup_f (by omega), zup_f (by omega), zup_f (by omega), zup_f (by omega)]
      exact a7 x y (by omega)
    · rw [zup_e (by omega)]
    · rw [zup_j (by omega), zup_j (by omega), zup_j (by omega), zup_e (by omega)]
    · rw [zup_j (by omega), zup_j (by omega), zup_j (by omega), zup_j (by omega)]; exact a3
    · rw [zup_j (by omega), zup_j (by omega), zup_e (by omega)]
    · rw [zup_j (by omega), zup_e (by omega)]
  · have c0 : ¬ 0 ≤ v := fun h => c (v4.1 h)
    refine ⟨zup (zup (zup (zup N 2 4 e) 2 5 1) 2 9 (-1)) 2 3 (e + 1), a1.trans ?_, fun x y h => ?_, ?_, ?_, ?_, fun h => absurd h c, fun _ => ⟨?_, ?_⟩⟩
    · simp (disch := first | assumption | exact zrm0 | exact zrm1 _ | exact zrm2 _ _ | exact zrm3 _ _ _ | exact zrm4 _ _ _ _ | omega) only [m141, ↓k_dp, ↓k_dn, k_dp, k_dn, k_dT, k_dF, k_ip, k_in, if_true, if_false, ne_eq, not_true_eq_false, not_false_eq_true, Int.reduceAdd, zup_a, zup_e, zup_j, z32_id, k_al0, k_en, k_pE, k_lc, k_pL, k_ic, k_pI, k_gI, k_icge, k_gR, k_ild, k_ildS, k_ildW, k_iceq, k_icne, k_dup, k_iadd, k_goto, k_iclt, k_min, k_rv, k_s1r, k_ifne, k_ifeq, k_v1, k_str, k_i2c, k_v2r, k_iflt, k_is1, k_il1, zb0_some, zb1_some, e141_0, e141_1, e141_4, e141_7, e141_8, e141_9, e141_12, e141_13, e141_14, e141_17, e141_18, e141_19, e141_22, e141_23, e141_26, e141_27, e141_30, e141_33, e141_34, e141_37, e141_38, e141_41, e141_42, e141_44, e141_47, e141_48, e141_51, e141_52, e141_55, e141_56, e141_58, e141_61, e141_62, e141_63, e141_66, e141_67, e141_68, e141_71, e141_74, e141_75, e141_78, e141_79, e141_82, e141_85, e141_86, e141_89, e141_90, e141_93, e141_96, e141_97, e141_98, e141_101, e141_102, e141_103, e141_106, e141_107, e141_110, e141_113, e141_116, e141_117, e141_118, e141_119, e141_122, e141_125, e141_126, e141_129, e141_130, e141_133, e141_134, e141_137, e141_140, e141_141, e141_144, e141_145, e141_148, e141_149, e141_152, e141_155, e141_156, e141_159, e141_160, e141_162, e141_163, e141_166, e141_167, e141_170, e141_171, e141_172, e141_175, e141_178, e141_179, e141_182, e141_183, e141_184, e141_185, e141_186, e141_189, e141_190, e141_193, e141_194, e141_197, e141_198, e141_199, e141_202, e141_203, e141_206, e141_207, e141_210, e141_211, e141_214, e141_215, e141_218, e141_219, e141_220, e141_223, e141_224, e141_225, e141_228, a2, k1, k2, k3, s_isLetter, s_isDigit, if_neg n1, if_neg n2, hz, v1]
    · rw [zup_f (by omega), zup_f (by omega), zup_f (by omega), zup_f (by omega)]
      exact a7 x y (by omega)
    · rw [zup_e (by omega)]
    · rw [zup_j (by omega), zup_j (by omega), zup_j (by omega), zup_e (by omega)]
    · rw [zup_j (by omega), zup_j (by omega), zup_j (by omega), zup_j (by omega)]; exact a3
    · rw [zup_j (by omega), zup_j (by omega), zup_e (by omega)]
    · rw [zup_j (by omega), zup_e (by omega)]
/-- letters and digits, m of them -/
theorem c_adv3 (d : Nat) (x0 : Int) (A : zM) (s l p e : Int) (m : Nat) (h1 : A 2 1 = s) (h2 : A 2 2 = l) (h3 : A 2 3 = p) (s1 : s ≤ 940) (p0 : 0 ≤ p) (pe : p ≤ e) (hb : ∀ i, p ≤ i → i < e → isB (A 3 i)) (hend : ¬ isB (A 3 e)) (el : e < l) (m1 : 1 ≤ m) (ms : e + m ≤ s) (ha : ∀ i, e ≤ i → i < e + m → isA (A 3 i)) (hm : e + m = s ∨ ¬ isA (A 3 (e + m))) : ∃ A', zEm true (d + 6) 141 [(27, 2, x0)] A = some ((98, 0, 0), A') ∧ agA A A' ∧ A' 2 3 = e + m ∧ A' 2 4 = e ∧ A' 2 9 = -1 ∧ (nLf (A 3) e m = m → m ≤ 8 → A' 2 5 = 2 ∧ A' 2 8 = V32 (RLf (A 3) e m) ∧ A' 2 7 = wcO (V32 (RLf (A 3) e m))) ∧ (nLf (A 3) e m = 0 → m ≤ 3 → A' 2 5 = 3 ∧ A' 2 6 = NLf (A 3) e m ∧ A' 2 7 = 1) ∧ (¬ (nLf (A 3) e m = m ∧ m ≤ 8) → ¬ (nLf (A 3) e m = 0 ∧ m ≤ 3) → A' 2 5 = 1 ∧ A' 2 7 = 1) := by
  obtain ⟨N, a1, a2, a3, a4, a5, a6, a7⟩ := c_adv0 (d + 5) x0 A s p e h1 h3 s1 p0 pe (by omega) hb (Or.inr hend)
  obtain ⟨B, hB⟩ : ∃ B, B = zup N 2 4 e := ⟨_, rfl⟩
  have k1 : N 2 1 = s := by rw [a7 _ _ (by omega)]; exact h1
  have k2 : N 2 2 = l := by rw [a7 _ _ (by omega)]; exact h2
  have hB3 : B 3 = A 3 := funext fun i => by rw [hB, zup_a (by omega)]; exact a7 _ _ (by omega)
  have hBj : ∀ j, j ≠ 4 → B 2 j = N 2 j := fun j h => by rw [hB, zup_j h]
  obtain ⟨A', b1, b2, b3, b4, b5, b6⟩ := c_run (d + 3) x0 B s e m (by rw [hBj _ (by omega)]; exact k1) s1 (by omega) m1 ms (by rw [hB3]; exact ha) (by rw [hB3]; exact hm) (by rw [hBj _ (by omega)]; exact a2) (by rw [hBj _ (by omega)]; exact a5) (by rw [hBj _ (by omega)]; exact a3) (by rw [hBj _ (by omega)]; exact a4)
  rw [hB3] at b4 b5 b6
  refine ⟨A', a1.trans ?_, fun x y h => ?_, b2, ?_, ?_, b4, b5, b6⟩
  · rw [hB] at b1
    have k3 : N 3 e = A 3 e := a7 _ _ (by omega)
    have hc := ha e (Int.le_refl _) (by omega)
    unfold isA isL isD at hc
    by_cases cl : 97 ≤ A 3 e ∧ A 3 e ≤ 122
    · simp (disch := first | assumption | exact zrm0 | exact zrm1 _ | exact zrm2 _ _ | exact zrm3 _ _ _ | exact zrm4 _ _ _ _ | omega) only [m141, ↓k_dp, ↓k_dn, k_dp, k_dn, k_dT, k_dF, k_ip, k_in, if_true, if_false, ne_eq, not_true_eq_false, not_false_eq_true, Int.reduceAdd, zup_a, zup_e, zup_j, z32_id, k_al0, k_en, k_pE, k_lc, k_pL, k_ic, k_pI, k_gI, k_icge, k_gR, k_ild, k_ildS, k_ildW, k_iceq, k_icne, k_dup, k_iadd, k_goto, k_iclt, k_min, k_rv, k_s1r, k_ifne, k_ifeq, k_v1, k_str, k_i2c, k_v2r, k_iflt, k_is1, k_il1, zb0_some, zb1_some, e141_0, e141_1, e141_4, e141_7, e141_8, e141_9, e141_12, e141_13, e141_14, e141_17, e141_18, e141_19, e141_22, e141_23, e141_26, e141_27, e141_30, e141_33, e141_34, e141_37, e141_38, e141_41, e141_42, e141_44, e141_47, e141_48, e141_51, e141_52, e141_55, e141_56, e141_58, e141_61, e141_62, e141_63, e141_66, e141_67, e141_68, e141_71, e141_74, e141_75, e141_78, e141_79, e141_82, e141_85, e141_86, e141_89, e141_90, e141_93, e141_96, e141_97, e141_98, e141_101, e141_102, e141_103, e141_106, e141_107, e141_110, e141_113, e141_116, e141_117, e141_118, e141_119, e141_122, e141_125, e141_126, e141_129, e141_130, e141_133, e141_134, e141_137, e141_140, e141_141, e141_144, e141_145, e141_148, e141_149, e141_152, e141_155, e141_156, e141_159, e141_160, e141_162, e141_163, e141_166, e141_167, e141_170, e141_171, e141_172, e141_175, e141_178, e141_179, e141_182, e141_183, e141_184, e141_185, e141_186, e141_189, e141_190, e141_193, e141_194, e141_197, e141_198, e141_199, e141_202, e141_203, e141_206, e141_207, e141_210, e141_211, e141_214, e141_215, e141_218, e141_219, e141_220, e141_223, e141_224, e141_225, e141_228, a2, k1, k2, k3, s_isLetter, s_isDigit, if_pos cl, b1]
    · have cd := hc.resolve_left cl
      simp (disch := first | assumption | exact zrm0 | exact zrm1 _ | exact zrm2 _ _ | exact zrm3 _ _ _ | exact zrm4 _ _ _ _ | omega) only [m141, ↓k_dp, ↓k_dn, k_dp, k_dn, k_dT, k_dF, k_ip, k_in, if_true, if_false, ne_eq, not_true_eq_false, not_false_eq_true, Int.reduceAdd, zup_a, zup_e, zup_j, z32_id, k_al0, k_en, k_pE, k_lc, k_pL, k_ic, k_pI, k_gI, k_icge, k_gR, k_ild, k_ildS, k_ildW, k_iceq, k_icne, k_dup, k_iadd, k_goto, k_iclt, k_min, k_rv, k_s1r, k_ifne, k_ifeq, k_v1, k_str, k_i2c, k_v2r, k_iflt, k_is1, k_il1, zb0_some, zb1_some, e141_0, e141_1, e141_4, e141_7, e141_8, e141_9, e141_12, e141_13, e141_14, e141_17, e141_18, e141_19, e141_22, e141_23, e141_26, e141_27, e141_30, e141_33, e141_34, e141_37, e141_38, e141_41, e141_42, e141_44, e141_47, e141_48, e141_51, e141_52, e141_55, e141_56, e141_58, e141_61, e141_62, e141_63, e141_66, e141_67, e141_68, e141_71, e141_74, e141_75, e141_78, e141_79, e141_82, e141_85, e141_86, e141_89, e141_90, e141_93, e141_96, e141_97, e141_98, e141_101, e141_102, e141_103, e141_106, e141_107, e141_110, e141_113, e141_116, e141_117, e141_118, e141_119, e141_122, e141_125, e141_126, e141_129, e141_130, e141_133, e141_134, e141_137, e141_140, e141_141, e141_144, e141_145, e141_148, e141_149, e141_152, e141_155, e141_156, e141_159, e141_160, e141_162, e141_163, e141_166, e141_167, e141_170, e141_171, e141_172, e141_175, e141_178, e141_179, e141_182, e141_183, e141_184, e141_185, e141_186, e141_189, e141_190, e141_193, e141_194, e141_197, e141_198, e141_199, e141_202, e141_203, e141_206, e141_207, e141_210, e141_211, e141_214, e141_215, e141_218, e141_219, e141_220, e141_223, e141_224, e141_225, e141_228, a2, k1, k2, k3, s_isLetter, s_isDigit, if_neg cl, if_pos cd, b1]
  · rw [b3 x y (by omega), hB, zup_f (by omega)]
    exact a7 x y (by omega)
  · rw [b3 _ _ (by omega), hB, zup_e (by omega)]
  · rw [b3 _ _ (by omega), hBj _ (by omega)]
    exact a6
