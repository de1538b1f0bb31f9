/-! the text of the crier -/
theorem zand_small {x : Int} (h0 : 0 ≤ x) (h1 : x < 128) : zand x 255 = x := by
  have h : ∀ n : Fin 128, zand (n.val : Int) 255 = (n.val : Int) := by decide +kernel
  obtain ⟨n, rfl⟩ := Int.eq_ofNat_of_zero_le h0
  exact h ⟨n, by omega⟩
theorem zc16_small {x : Int} (h0 : 0 ≤ x) (h1 : x < 128) : zc16 x = x := by
  have h : ∀ n : Fin 128, zc16 (n.val : Int) = (n.val : Int) := by decide +kernel
  obtain ⟨n, rfl⟩ := Int.eq_ofNat_of_zero_le h0
  exact h ⟨n, by omega⟩
theorem zshr_small {x : Int} (h0 : 0 ≤ x) (h1 : x < 128) : zshr x 0 = x := by
  have h : ∀ n : Fin 128, zshr (n.val : Int) 0 = (n.val : Int) := by decide +kernel
  obtain ⟨n, rfl⟩ := Int.eq_ofNat_of_zero_le h0
  exact h ⟨n, by omega⟩
def relI (M : zM) : Prop := 220 ≤ M (-1) 0 ∧ (M 54 0 = 55 ∨ (220 ≤ M 54 0 ∧ M 54 0 < M (-1) 0)) ∧ (M 54 1000 = 16 ∨ M 54 1000 = 34) ∧ M 54 1 = 0 ∧ (0 ≤ M 54 3 ∧ M 54 3 ≤ M 54 1000) ∧ M 197 39 = M 54 3 ∧ ∀ i, 0 ≤ i → i < M 54 3 → M 215 i = M (M 54 0) i ∧ 0 ≤ M 215 i ∧ M 215 i < 128
theorem m36 (ph : Bool) (d : Nat) (a x0 p0 y0 : Int) (M : zM) : zEm ph (d + 1) 36 [(29, a, x0), (0, p0, y0)] M = zEv ph d 36 0 [(29, a, x0), (0, p0, y0)] [] M := rfl
theorem e36_0 (ph : Bool) (d : Nat) (L st : List zV) (M : zM) : zEv ph d 36 0 L st M = zcont ph d 36 (zstep ph (zEm ph d) 2 1 0 [1] L st M) := zEv_step rfl
theorem e36_1 (ph : Bool) (d : Nat) (L st : List zV) (M : zM) : zEv ph d 36 1 L st M = zcont ph d 36 (zstep ph (zEm ph d) 42 4 18 [] L st M) := zEv_step rfl
theorem e36_4 (ph : Bool) (d : Nat) (L st : List zV) (M : zM) : zEv ph d 36 4 L st M = zcont ph d 36 (zstep ph (zEm ph d) 2 5 0 [1] L st M) := zEv_step rfl
theorem e36_5 (ph : Bool) (d : Nat) (L st : List zV) (M : zM) : zEv ph d 36 5 L st M = zcont ph d 36 (zstep ph (zEm ph d) 4 6 0 [0] L st M) := zEv_step rfl
theorem e36_6 (ph : Bool) (d : Nat) (L st : List zV) (M : zM) : zEv ph d 36 6 L st M = zcont ph d 36 (zstep ph (zEm ph d) 62 9 0 [29, 5, 51, 22, 0] L st M) := zEv_step rfl
theorem e36_9 (ph : Bool) (d : Nat) (L st : List zV) (M : zM) : zEv ph d 36 9 L st M = zcont ph d 36 (zstep ph (zEm ph d) 62 12 0 [22, 9, 3, 31, 0] L st M) := zEv_step rfl
theorem e36_12 (ph : Bool) (d : Nat) (L st : List zV) (M : zM) : zEv ph d 36 12 L st M = zcont ph d 36 (zstep ph (zEm ph d) 70 15 339 [1, 1, 31] L st M) := zEv_step rfl
theorem e36_15 (ph : Bool) (d : Nat) (L st : List zV) (M : zM) : zEv ph d 36 15 L st M = zcont ph d 36 (zstep ph (zEm ph d) 48 18 20 [] L st M) := zEv_step rfl
theorem e36_18 (ph : Bool) (d : Nat) (L st : List zV) (M : zM) : zEv ph d 36 18 L st M = zcont ph d 36 (zstep ph (zEm ph d) 0 19 0 [-1] L st M) := zEv_step rfl
theorem e36_19 (ph : Bool) (d : Nat) (L st : List zV) (M : zM) : zEv ph d 36 19 L st M = zcont ph d 36 (zstep ph (zEm ph d) 80 20 0 [] L st M) := zEv_step rfl
theorem e36_20 (ph : Bool) (d : Nat) (L st : List zV) (M : zM) : zEv ph d 36 20 L st M = zcont ph d 36 (zstep ph (zEm ph d) 4 21 0 [0] L st M) := zEv_step rfl
theorem e36_21 (ph : Bool) (d : Nat) (L st : List zV) (M : zM) : zEv ph d 36 21 L st M = zcont ph d 36 (zstep ph (zEm ph d) 62 24 0 [29, 5, 51, 22, 0] L st M) := zEv_step rfl
theorem e36_24 (ph : Bool) (d : Nat) (L st : List zV) (M : zM) : zEv ph d 36 24 L st M = zcont ph d 36 (zstep ph (zEm ph d) 62 27 0 [22, 9, 3, 31, 0] L st M) := zEv_step rfl
theorem e36_27 (ph : Bool) (d : Nat) (L st : List zV) (M : zM) : zEv ph d 36 27 L st M = zcont ph d 36 (zstep ph (zEm ph d) 2 28 0 [1] L st M) := zEv_step rfl
theorem e36_28 (ph : Bool) (d : Nat) (L st : List zV) (M : zM) : zEv ph d 36 28 L st M = zcont ph d 36 (zstep ph (zEm ph d) 70 31 337 [2, 1, 31] L st M) := zEv_step rfl
theorem e36_31 (ph : Bool) (d : Nat) (L st : List zV) (M : zM) : zEv ph d 36 31 L st M = zcont ph d 36 (zstep ph (zEm ph d) 80 32 0 [] L st M) := zEv_step rfl
theorem m268 (ph : Bool) (d : Nat) (a x0 p0 y0 : Int) (M : zM) : zEm ph (d + 1) 268 [(30, a, x0), (0, p0, y0)] M = zEv ph d 268 0 [(30, a, x0), (0, p0, y0)] [] M := rfl
theorem e268_0 (ph : Bool) (d : Nat) (L st : List zV) (M : zM) : zEv ph d 268 0 L st M = zcont ph d 268 (zstep ph (zEm ph d) 4 1 0 [0] L st M) := zEv_step rfl
theorem e268_1 (ph : Bool) (d : Nat) (L st : List zV) (M : zM) : zEv ph d 268 1 L st M = zcont ph d 268 (zstep ph (zEm ph d) 0 2 0 [0] L st M) := zEv_step rfl
theorem e268_2 (ph : Bool) (d : Nat) (L st : List zV) (M : zM) : zEv ph d 268 2 L st M = zcont ph d 268 (zstep ph (zEm ph d) 65 5 0 [30, 0] L st M) := zEv_step rfl
theorem e268_5 (ph : Bool) (d : Nat) (L st : List zV) (M : zM) : zEv ph d 268 5 L st M = zcont ph d 268 (zstep ph (zEm ph d) 2 6 0 [1] L st M) := zEv_step rfl
theorem e268_6 (ph : Bool) (d : Nat) (L st : List zV) (M : zM) : zEv ph d 268 6 L st M = zcont ph d 268 (zstep ph (zEm ph d) 0 7 0 [0] L st M) := zEv_step rfl
theorem e268_7 (ph : Bool) (d : Nat) (L st : List zV) (M : zM) : zEv ph d 268 7 L st M = zcont ph d 268 (zstep ph (zEm ph d) 4 8 0 [0] L st M) := zEv_step rfl
theorem e268_8 (ph : Bool) (d : Nat) (L st : List zV) (M : zM) : zEv ph d 268 8 L st M = zcont ph d 268 (zstep ph (zEm ph d) 60 11 0 [30, 39] L st M) := zEv_step rfl
theorem e268_11 (ph : Bool) (d : Nat) (L st : List zV) (M : zM) : zEv ph d 268 11 L st M = zcont ph d 268 (zstep ph (zEm ph d) 0 12 0 [1] L st M) := zEv_step rfl
theorem e268_12 (ph : Bool) (d : Nat) (L st : List zV) (M : zM) : zEv ph d 268 12 L st M = zcont ph d 268 (zstep ph (zEm ph d) 11 13 0 [] L st M) := zEv_step rfl
theorem e268_13 (ph : Bool) (d : Nat) (L st : List zV) (M : zM) : zEv ph d 268 13 L st M = zcont ph d 268 (zstep ph (zEm ph d) 70 16 168 [3, 1, -1] L st M) := zEv_step rfl
theorem e268_16 (ph : Bool) (d : Nat) (L st : List zV) (M : zM) : zEv ph d 268 16 L st M = zcont ph d 268 (zstep ph (zEm ph d) 40 19 28 [] L st M) := zEv_step rfl
theorem e268_19 (ph : Bool) (d : Nat) (L st : List zV) (M : zM) : zEv ph d 268 19 L st M = zcont ph d 268 (zstep ph (zEm ph d) 4 20 0 [0] L st M) := zEv_step rfl
theorem e268_20 (ph : Bool) (d : Nat) (L st : List zV) (M : zM) : zEv ph d 268 20 L st M = zcont ph d 268 (zstep ph (zEm ph d) 62 23 0 [30, 38, 18, 10, 64] L st M) := zEv_step rfl
theorem e268_23 (ph : Bool) (d : Nat) (L st : List zV) (M : zM) : zEv ph d 268 23 L st M = zcont ph d 268 (zstep ph (zEm ph d) 2 24 0 [1] L st M) := zEv_step rfl
theorem e268_24 (ph : Bool) (d : Nat) (L st : List zV) (M : zM) : zEv ph d 268 24 L st M = zcont ph d 268 (zstep ph (zEm ph d) 85 25 0 [] L st M) := zEv_step rfl
theorem e268_25 (ph : Bool) (d : Nat) (L st : List zV) (M : zM) : zEv ph d 268 25 L st M = zcont ph d 268 (zstep ph (zEm ph d) 52 28 29 [] L st M) := zEv_step rfl
theorem e268_28 (ph : Bool) (d : Nat) (L st : List zV) (M : zM) : zEv ph d 268 28 L st M = zcont ph d 268 (zstep ph (zEm ph d) 0 29 0 [-1] L st M) := zEv_step rfl
theorem e268_29 (ph : Bool) (d : Nat) (L st : List zV) (M : zM) : zEv ph d 268 29 L st M = zcont ph d 268 (zstep ph (zEm ph d) 80 30 0 [] L st M) := zEv_step rfl
theorem m339 (ph : Bool) (d : Nat) (a x0 : Int) (M : zM) : zEm ph (d + 1) 339 [(31, a, x0)] M = zEv ph d 339 0 [(31, a, x0)] [] M := rfl
theorem e339_0 (ph : Bool) (d : Nat) (L st : List zV) (M : zM) : zEv ph d 339 0 L st M = zcont ph d 339 (zstep ph (zEm ph d) 4 1 0 [0] L st M) := zEv_step rfl
theorem e339_1 (ph : Bool) (d : Nat) (L st : List zV) (M : zM) : zEv ph d 339 1 L st M = zcont ph d 339 (zstep ph (zEm ph d) 70 4 301 [1, 1, 31] L st M) := zEv_step rfl
theorem e339_4 (ph : Bool) (d : Nat) (L st : List zV) (M : zM) : zEv ph d 339 4 L st M = zcont ph d 339 (zstep ph (zEm ph d) 80 5 0 [] L st M) := zEv_step rfl
theorem m337 (ph : Bool) (d : Nat) (a x0 p0 y0 : Int) (M : zM) : zEm ph (d + 1) 337 [(31, a, x0), (0, p0, y0)] M = zEv ph d 337 0 [(31, a, x0), (0, p0, y0)] [] M := rfl
theorem e337_0 (ph : Bool) (d : Nat) (L st : List zV) (M : zM) : zEv ph d 337 0 L st M = zcont ph d 337 (zstep ph (zEm ph d) 4 1 0 [0] L st M) := zEv_step rfl
theorem e337_1 (ph : Bool) (d : Nat) (L st : List zV) (M : zM) : zEv ph d 337 1 L st M = zcont ph d 337 (zstep ph (zEm ph d) 2 2 0 [1] L st M) := zEv_step rfl
theorem e337_2 (ph : Bool) (d : Nat) (L st : List zV) (M : zM) : zEv ph d 337 2 L st M = zcont ph d 337 (zstep ph (zEm ph d) 70 5 306 [2, 1, 31] L st M) := zEv_step rfl
theorem e337_5 (ph : Bool) (d : Nat) (L st : List zV) (M : zM) : zEv ph d 337 5 L st M = zcont ph d 337 (zstep ph (zEm ph d) 80 6 0 [0, 65535] L st M) := zEv_step rfl
theorem m301 (ph : Bool) (d : Nat) (a x0 : Int) (M : zM) : zEm ph (d + 1) 301 [(31, a, x0)] M = zEv ph d 301 0 [(31, a, x0)] [] M := rfl
theorem e301_0 (ph : Bool) (d : Nat) (L st : List zV) (M : zM) : zEv ph d 301 0 L st M = zcont ph d 301 (zstep ph (zEm ph d) 4 1 0 [0] L st M) := zEv_step rfl
theorem e301_1 (ph : Bool) (d : Nat) (L st : List zV) (M : zM) : zEv ph d 301 1 L st M = zcont ph d 301 (zstep ph (zEm ph d) 60 4 0 [31, 3] L st M) := zEv_step rfl
theorem e301_4 (ph : Bool) (d : Nat) (L st : List zV) (M : zM) : zEv ph d 301 4 L st M = zcont ph d 301 (zstep ph (zEm ph d) 80 5 0 [] L st M) := zEv_step rfl
theorem m306 (ph : Bool) (d : Nat) (a x0 p0 y0 : Int) (M : zM) : zEm ph (d + 1) 306 [(31, a, x0), (0, p0, y0)] M = zEv ph d 306 0 [(31, a, x0), (0, p0, y0), (3, 0, 0), (3, 0, 0), (3, 0, 0)] [] M := rfl
theorem e306_0 (ph : Bool) (d : Nat) (L st : List zV) (M : zM) : zEv ph d 306 0 L st M = zcont ph d 306 (zstep ph (zEm ph d) 4 1 0 [0] L st M) := zEv_step rfl
theorem e306_1 (ph : Bool) (d : Nat) (L st : List zV) (M : zM) : zEv ph d 306 1 L st M = zcont ph d 306 (zstep ph (zEm ph d) 60 4 0 [31, 1] L st M) := zEv_step rfl
theorem e306_4 (ph : Bool) (d : Nat) (L st : List zV) (M : zM) : zEv ph d 306 4 L st M = zcont ph d 306 (zstep ph (zEm ph d) 5 5 0 [2] L st M) := zEv_step rfl
theorem e306_5 (ph : Bool) (d : Nat) (L st : List zV) (M : zM) : zEv ph d 306 5 L st M = zcont ph d 306 (zstep ph (zEm ph d) 4 6 0 [0] L st M) := zEv_step rfl
theorem e306_6 (ph : Bool) (d : Nat) (L st : List zV) (M : zM) : zEv ph d 306 6 L st M = zcont ph d 306 (zstep ph (zEm ph d) 64 9 0 [31, 0, 13] L st M) := zEv_step rfl
theorem e306_9 (ph : Bool) (d : Nat) (L st : List zV) (M : zM) : zEv ph d 306 9 L st M = zcont ph d 306 (zstep ph (zEm ph d) 7 10 0 [3] L st M) := zEv_step rfl
theorem e306_10 (ph : Bool) (d : Nat) (L st : List zV) (M : zM) : zEv ph d 306 10 L st M = zcont ph d 306 (zstep ph (zEm ph d) 4 11 0 [0] L st M) := zEv_step rfl
theorem e306_11 (ph : Bool) (d : Nat) (L st : List zV) (M : zM) : zEv ph d 306 11 L st M = zcont ph d 306 (zstep ph (zEm ph d) 60 14 0 [31, 3] L st M) := zEv_step rfl
theorem e306_14 (ph : Bool) (d : Nat) (L st : List zV) (M : zM) : zEv ph d 306 14 L st M = zcont ph d 306 (zstep ph (zEm ph d) 4 15 0 [3] L st M) := zEv_step rfl
theorem e306_15 (ph : Bool) (d : Nat) (L st : List zV) (M : zM) : zEv ph d 306 15 L st M = zcont ph d 306 (zstep ph (zEm ph d) 84 16 0 [] L st M) := zEv_step rfl
theorem e306_16 (ph : Bool) (d : Nat) (L st : List zV) (M : zM) : zEv ph d 306 16 L st M = zcont ph d 306 (zstep ph (zEm ph d) 2 17 0 [2] L st M) := zEv_step rfl
theorem e306_17 (ph : Bool) (d : Nat) (L st : List zV) (M : zM) : zEv ph d 306 17 L st M = zcont ph d 306 (zstep ph (zEm ph d) 20 18 0 [] L st M) := zEv_step rfl
theorem e306_18 (ph : Bool) (d : Nat) (L st : List zV) (M : zM) : zEv ph d 306 18 L st M = zcont ph d 306 (zstep ph (zEm ph d) 72 21 0 [] L st M) := zEv_step rfl
theorem e306_21 (ph : Bool) (d : Nat) (L st : List zV) (M : zM) : zEv ph d 306 21 L st M = zcont ph d 306 (zstep ph (zEm ph d) 5 23 0 [4] L st M) := zEv_step rfl
theorem e306_23 (ph : Bool) (d : Nat) (L st : List zV) (M : zM) : zEv ph d 306 23 L st M = zcont ph d 306 (zstep ph (zEm ph d) 2 24 0 [1] L st M) := zEv_step rfl
theorem e306_24 (ph : Bool) (d : Nat) (L st : List zV) (M : zM) : zEv ph d 306 24 L st M = zcont ph d 306 (zstep ph (zEm ph d) 2 26 0 [4] L st M) := zEv_step rfl
theorem e306_26 (ph : Bool) (d : Nat) (L st : List zV) (M : zM) : zEv ph d 306 26 L st M = zcont ph d 306 (zstep ph (zEm ph d) 70 29 330 [2, 0, -1] L st M) := zEv_step rfl
theorem e306_29 (ph : Bool) (d : Nat) (L st : List zV) (M : zM) : zEv ph d 306 29 L st M = zcont ph d 306 (zstep ph (zEm ph d) 2 30 0 [2] L st M) := zEv_step rfl
theorem e306_30 (ph : Bool) (d : Nat) (L st : List zV) (M : zM) : zEv ph d 306 30 L st M = zcont ph d 306 (zstep ph (zEm ph d) 41 33 42 [] L st M) := zEv_step rfl
theorem e306_33 (ph : Bool) (d : Nat) (L st : List zV) (M : zM) : zEv ph d 306 33 L st M = zcont ph d 306 (zstep ph (zEm ph d) 4 34 0 [3] L st M) := zEv_step rfl
theorem e306_34 (ph : Bool) (d : Nat) (L st : List zV) (M : zM) : zEv ph d 306 34 L st M = zcont ph d 306 (zstep ph (zEm ph d) 2 35 0 [1] L st M) := zEv_step rfl
theorem e306_35 (ph : Bool) (d : Nat) (L st : List zV) (M : zM) : zEv ph d 306 35 L st M = zcont ph d 306 (zstep ph (zEm ph d) 87 36 0 [] L st M) := zEv_step rfl
theorem e306_36 (ph : Bool) (d : Nat) (L st : List zV) (M : zM) : zEv ph d 306 36 L st M = zcont ph d 306 (zstep ph (zEm ph d) 0 39 0 [255] L st M) := zEv_step rfl
theorem e306_39 (ph : Bool) (d : Nat) (L st : List zV) (M : zM) : zEv ph d 306 39 L st M = zcont ph d 306 (zstep ph (zEm ph d) 16 40 0 [] L st M) := zEv_step rfl
theorem e306_40 (ph : Bool) (d : Nat) (L st : List zV) (M : zM) : zEv ph d 306 40 L st M = zcont ph d 306 (zstep ph (zEm ph d) 30 41 0 [] L st M) := zEv_step rfl
theorem e306_41 (ph : Bool) (d : Nat) (L st : List zV) (M : zM) : zEv ph d 306 41 L st M = zcont ph d 306 (zstep ph (zEm ph d) 80 42 0 [0, 65535] L st M) := zEv_step rfl
theorem e306_42 (ph : Bool) (d : Nat) (L st : List zV) (M : zM) : zEv ph d 306 42 L st M = zcont ph d 306 (zstep ph (zEm ph d) 4 43 0 [3] L st M) := zEv_step rfl
theorem e306_43 (ph : Bool) (d : Nat) (L st : List zV) (M : zM) : zEv ph d 306 43 L st M = zcont ph d 306 (zstep ph (zEm ph d) 2 44 0 [1] L st M) := zEv_step rfl
theorem e306_44 (ph : Bool) (d : Nat) (L st : List zV) (M : zM) : zEv ph d 306 44 L st M = zcont ph d 306 (zstep ph (zEm ph d) 70 47 349 [2, 1, -1] L st M) := zEv_step rfl
theorem e306_47 (ph : Bool) (d : Nat) (L st : List zV) (M : zM) : zEv ph d 306 47 L st M = zcont ph d 306 (zstep ph (zEm ph d) 80 48 0 [0, 65535] L st M) := zEv_step rfl
theorem m330 (ph : Bool) (d : Nat) (p0 y0 p1 y1 : Int) (M : zM) : zEm ph (d + 1) 330 [(0, p0, y0), (0, p1, y1)] M = zEv ph d 330 0 [(0, p0, y0), (0, p1, y1)] [] M := rfl
theorem e330_0 (ph : Bool) (d : Nat) (L st : List zV) (M : zM) : zEv ph d 330 0 L st M = zcont ph d 330 (zstep ph (zEm ph d) 2 1 0 [0] L st M) := zEv_step rfl
theorem e330_1 (ph : Bool) (d : Nat) (L st : List zV) (M : zM) : zEv ph d 330 1 L st M = zcont ph d 330 (zstep ph (zEm ph d) 2 2 0 [1] L st M) := zEv_step rfl
theorem e330_2 (ph : Bool) (d : Nat) (L st : List zV) (M : zM) : zEv ph d 330 2 L st M = zcont ph d 330 (zstep ph (zEm ph d) 103 5 0 [] L st M) := zEv_step rfl
theorem e330_5 (ph : Bool) (d : Nat) (L st : List zV) (M : zM) : zEv ph d 330 5 L st M = zcont ph d 330 (zstep ph (zEm ph d) 70 8 369 [3, 1, -1] L st M) := zEv_step rfl
theorem e330_8 (ph : Bool) (d : Nat) (L st : List zV) (M : zM) : zEv ph d 330 8 L st M = zcont ph d 330 (zstep ph (zEm ph d) 38 9 0 [] L st M) := zEv_step rfl
theorem e330_9 (ph : Bool) (d : Nat) (L st : List zV) (M : zM) : zEv ph d 330 9 L st M = zcont ph d 330 (zstep ph (zEm ph d) 83 10 0 [] L st M) := zEv_step rfl
theorem m369 (ph : Bool) (d : Nat) (p0 y0 p1 y1 p2 y2 : Int) (M : zM) : zEm ph (d + 1) 369 [(0, p0, y0), (0, p1, y1), (17, p2, y2)] M = zEv ph d 369 0 [(0, p0, y0), (0, p1, y1), (17, p2, y2)] [] M := rfl
theorem e369_0 (ph : Bool) (d : Nat) (L st : List zV) (M : zM) : zEv ph d 369 0 L st M = zcont ph d 369 (zstep ph (zEm ph d) 2 1 0 [0] L st M) := zEv_step rfl
theorem e369_1 (ph : Bool) (d : Nat) (L st : List zV) (M : zM) : zEv ph d 369 1 L st M = zcont ph d 369 (zstep ph (zEm ph d) 42 4 9 [] L st M) := zEv_step rfl
theorem e369_4 (ph : Bool) (d : Nat) (L st : List zV) (M : zM) : zEv ph d 369 4 L st M = zcont ph d 369 (zstep ph (zEm ph d) 2 5 0 [0] L st M) := zEv_step rfl
theorem e369_5 (ph : Bool) (d : Nat) (L st : List zV) (M : zM) : zEv ph d 369 5 L st M = zcont ph d 369 (zstep ph (zEm ph d) 2 6 0 [1] L st M) := zEv_step rfl
theorem e369_6 (ph : Bool) (d : Nat) (L st : List zV) (M : zM) : zEv ph d 369 6 L st M = zcont ph d 369 (zstep ph (zEm ph d) 48 9 16 [] L st M) := zEv_step rfl
theorem e369_9 (ph : Bool) (d : Nat) (L st : List zV) (M : zM) : zEv ph d 369 9 L st M = zcont ph d 369 (zstep ph (zEm ph d) 4 10 0 [2] L st M) := zEv_step rfl
theorem e369_10 (ph : Bool) (d : Nat) (L st : List zV) (M : zM) : zEv ph d 369 10 L st M = zcont ph d 369 (zstep ph (zEm ph d) 2 11 0 [0] L st M) := zEv_step rfl
theorem e369_11 (ph : Bool) (d : Nat) (L st : List zV) (M : zM) : zEv ph d 369 11 L st M = zcont ph d 369 (zstep ph (zEm ph d) 2 12 0 [1] L st M) := zEv_step rfl
theorem e369_16 (ph : Bool) (d : Nat) (L st : List zV) (M : zM) : zEv ph d 369 16 L st M = zcont ph d 369 (zstep ph (zEm ph d) 2 17 0 [0] L st M) := zEv_step rfl
theorem e369_17 (ph : Bool) (d : Nat) (L st : List zV) (M : zM) : zEv ph d 369 17 L st M = zcont ph d 369 (zstep ph (zEm ph d) 80 18 0 [] L st M) := zEv_step rfl
theorem s_preIndex (d : Nat) (i n y1 y2 : Int) (l l2 : Int) (M : zM) (h0 : 0 ≤ i) (h1 : i < n) : zEm true (d + 1) 369 [(0, i, y1), (0, n, y2), (17, l, l2)] M = some ((0, i, 0), M) := by
  simp (disch := first | assumption | exact zrm0 | exact zrm1 _ | exact zrm2 _ _ | exact zrm3 _ _ _ | exact zrm4 _ _ _ _ | omega) only [m369, ↓k_dp, ↓k_dn, k_dp, k_dn, k_dT, k_dF, k_ip, k_in, if_true, if_false, ne_eq, not_true_eq_false, not_false_eq_true, Int.reduceAdd, zup_a, zup_e, zup_j, z32_id, k_il0, k_iflt, k_il1, k_iclt, k_al2, k_ri, e369_0, e369_1, e369_4, e369_5, e369_6, e369_9, e369_10, e369_11, e369_16, e369_17]
theorem s_checkIndex (d : Nat) (i n y1 y2 : Int) (M : zM) (h0 : 0 ≤ i) (h1 : i < n) : zEm true (d + 2) 330 [(0, i, y1), (0, n, y2)] M = some ((98, 0, 0), M) := by
  simp (disch := first | assumption | exact zrm0 | exact zrm1 _ | exact zrm2 _ _ | exact zrm3 _ _ _ | exact zrm4 _ _ _ _ | omega) only [m330, ↓k_dp, ↓k_dn, k_dp, k_dn, k_dT, k_dF, k_ip, k_in, if_true, if_false, ne_eq, not_true_eq_false, not_false_eq_true, Int.reduceAdd, zup_a, zup_e, zup_j, z32_id, k_il0, k_il1, k_fmt, k_s3r, k_pop, k_rv, zb0_some, zb1_some, e330_0, e330_1, e330_2, e330_5, e330_8, e330_9, s_preIndex]
theorem s_abLength (d : Nat) (y : Int) (M : zM) : zEm true (d + 1) 301 [(31, 54, y)] M = some ((0, M 54 3, 0), M) := by
  simp (disch := first | assumption | exact zrm0 | exact zrm1 _ | exact zrm2 _ _ | exact zrm3 _ _ _ | exact zrm4 _ _ _ _ | omega) only [m301, ↓k_dp, ↓k_dn, k_dp, k_dn, k_dT, k_dF, k_ip, k_in, if_true, if_false, ne_eq, not_true_eq_false, not_false_eq_true, Int.reduceAdd, zup_a, zup_e, zup_j, z32_id, k_al0, k_gI, k_ri, e301_0, e301_1, e301_4]
theorem s_sbLength (d : Nat) (y : Int) (M : zM) : zEm true (d + 2) 339 [(31, 54, y)] M = some ((0, M 54 3, 0), M) := by
  simp (disch := first | assumption | exact zrm0 | exact zrm1 _ | exact zrm2 _ _ | exact zrm3 _ _ _ | exact zrm4 _ _ _ _ | omega) only [m339, ↓k_dp, ↓k_dn, k_dp, k_dn, k_dT, k_dF, k_ip, k_in, if_true, if_false, ne_eq, not_true_eq_false, not_false_eq_true, Int.reduceAdd, zup_a, zup_e, zup_j, z32_id, k_al0, k_v1r, k_ri, zb0_some, zb1_some, e339_0, e339_1, e339_4, s_abLength]
theorem s_abCharAt (d : Nat) (y i y1 : Int) (M : zM) (hI : relI M) (h0 : 0 ≤ i) (h1 : i < M 54 3) : zEm true (d + 3) 306 [(31, 54, y), (0, i, y1)] M = some ((0, M (M 54 0) i, 0), M) := by
  obtain ⟨a1, a2, a3, a4, ⟨a5, a6⟩, a7, a8⟩ := hI
  obtain ⟨b1, b2, b3⟩ := a8 i h0 h1
  have b4 := zand_small b2 b3
  rw [b1] at b4 b2 b3
  have b5 := zc16_small b2 b3
  have b6 := zshr_small (x := M 54 1000) (by omega) (by omega)
  have b7 : (if M 54 1000 < M 54 3 then M 54 1000 else M 54 3) = M 54 3 := if_neg (by omega)
  simp (disch := first | assumption | exact zrm0 | exact zrm1 _ | exact zrm2 _ _ | exact zrm3 _ _ _ | exact zrm4 _ _ _ _ | omega) only [m306, ↓k_dp, ↓k_dn, k_dp, k_dn, k_dT, k_dF, k_ip, k_in, if_true, if_false, ne_eq, not_true_eq_false, not_false_eq_true, Int.reduceAdd, zup_a, zup_e, zup_j, z32_id, k_al0, k_gI, k_is2, k_gD, k_as3, k_al3, k_len, k_il2, k_ishr, k_min, k_is4, k_il1, k_il4, k_s2, k_ifne, k_bldZ, k_bldB, k_bldD, k_bldT, k_ic, k_iand, k_i2c, k_rz, k_s2r, zb0_some, zb1_some, e306_0, e306_1, e306_4, e306_5, e306_6, e306_9, e306_10, e306_11, e306_14, e306_15, e306_16, e306_17, e306_18, e306_21, e306_23, e306_24, e306_26, e306_29, e306_30, e306_33, e306_34, e306_35, e306_36, e306_39, e306_40, e306_41, e306_42, e306_43, e306_44, e306_47, s_checkIndex, a4, b4, b5, b6, b7]
theorem s_sbCharAt (d : Nat) (y i y1 : Int) (M : zM) (hI : relI M) (h0 : 0 ≤ i) (h1 : i < M 54 3) : zEm true (d + 4) 337 [(31, 54, y), (0, i, y1)] M = some ((0, M (M 54 0) i, 0), M) := by
  have h := s_abCharAt d y i 0 M hI h0 h1
  obtain ⟨a1, a2, a3, a4, ⟨a5, a6⟩, a7, a8⟩ := hI
  obtain ⟨b1, b2, b3⟩ := a8 i h0 h1
  rw [b1] at b2 b3
  simp (disch := first | assumption | exact zrm0 | exact zrm1 _ | exact zrm2 _ _ | exact zrm3 _ _ _ | exact zrm4 _ _ _ _ | omega) only [m337, ↓k_dp, ↓k_dn, k_dp, k_dn, k_dT, k_dF, k_ip, k_in, if_true, if_false, ne_eq, not_true_eq_false, not_false_eq_true, Int.reduceAdd, zup_a, zup_e, zup_j, z32_id, k_al0, k_il1, k_v2r, k_rz, zb0_some, zb1_some, e337_0, e337_1, e337_2, e337_5, h]
theorem pair_byteAt (d : Nat) (x0 z0 h y1 z1 : Int) (M : zM) (hI : relI M) : zPairQ M (zEm true (d + 8) 36 [(29, 0, x0), (0, h, y1)] M) (fun M1 => zEm true (d + 8) 268 [(30, 197, z0), (0, h, z1)] M1) := by
  have hI2 := hI
  obtain ⟨a1, a2, a3, a4, ⟨a5, a6⟩, a7, a8⟩ := hI2
  by_cases c : 0 ≤ h ∧ h < M 54 3
  · have c2 : 0 ≤ h ∧ h ≤ M 54 3 - 1 := by omega
    obtain ⟨b1, b2, b3⟩ := a8 h c.1 c.2
    have hc := s_sbCharAt (d + 3) 0 h 0 M hI c.1 c.2
    refine ⟨M (M 54 0) h, ?_, by simp (disch := first | assumption | exact zrm0 | exact zrm1 _ | exact zrm2 _ _ | exact zrm3 _ _ _ | exact zrm4 _ _ _ _ | omega) only [m268, ↓k_dp, ↓k_dn, k_dp, k_dn, k_dT, k_dF, k_ip, k_in, if_true, if_false, ne_eq, not_true_eq_false, not_false_eq_true, Int.reduceAdd, zup_a, zup_e, zup_j, z32_id, k_al0, k_ic, k_pI, k_il1, k_gI, k_isub, k_s3r, k_ifeq, k_gR, k_ild, k_ildS, k_ildW, k_goto, k_ri, zb0_some, zb1_some, e268_0, e268_1, e268_2, e268_5, e268_6, e268_7, e268_8, e268_11, e268_12, e268_13, e268_16, e268_19, e268_20, e268_23, e268_24, e268_25, e268_28, e268_29, a7, r_isIn, if_pos c2, b1]⟩
    simp (disch := first | assumption | exact zrm0 | exact zrm1 _ | exact zrm2 _ _ | exact zrm3 _ _ _ | exact zrm4 _ _ _ _ | omega) only [m36, ↓k_dp, ↓k_dn, k_dp, k_dn, k_dT, k_dF, k_ip, k_in, if_true, if_false, ne_eq, not_true_eq_false, not_false_eq_true, Int.reduceAdd, zup_a, zup_e, zup_j, z32_id, k_il1, k_iflt, k_al0, k_gR, k_v1r, k_iclt, k_ic, k_ri, k_v2r, zb0_some, zb1_some, e36_0, e36_1, e36_4, e36_5, e36_6, e36_9, e36_12, e36_15, e36_18, e36_19, e36_20, e36_21, e36_24, e36_27, e36_28, e36_31, s_sbLength, hc]
  · have c2 : ¬ (0 ≤ h ∧ h ≤ M 54 3 - 1) := by omega
    refine ⟨-1, ?_, by simp (disch := first | assumption | exact zrm0 | exact zrm1 _ | exact zrm2 _ _ | exact zrm3 _ _ _ | exact zrm4 _ _ _ _ | omega) only [m268, ↓k_dp, ↓k_dn, k_dp, k_dn, k_dT, k_dF, k_ip, k_in, if_true, if_false, ne_eq, not_true_eq_false, not_false_eq_true, Int.reduceAdd, zup_a, zup_e, zup_j, z32_id, k_al0, k_ic, k_pI, k_il1, k_gI, k_isub, k_s3r, k_ifeq, k_gR, k_ild, k_ildS, k_ildW, k_goto, k_ri, zb0_some, zb1_some, e268_0, e268_1, e268_2, e268_5, e268_6, e268_7, e268_8, e268_11, e268_12, e268_13, e268_16, e268_19, e268_20, e268_23, e268_24, e268_25, e268_28, e268_29, a7, r_isIn, if_neg c2]⟩
    simp (disch := first | assumption | exact zrm0 | exact zrm1 _ | exact zrm2 _ _ | exact zrm3 _ _ _ | exact zrm4 _ _ _ _ | omega) only [m36, ↓k_dp, ↓k_dn, k_dp, k_dn, k_dT, k_dF, k_ip, k_in, if_true, if_false, ne_eq, not_true_eq_false, not_false_eq_true, Int.reduceAdd, zup_a, zup_e, zup_j, z32_id, k_il1, k_iflt, k_al0, k_gR, k_v1r, k_iclt, k_ic, k_ri, k_v2r, zb0_some, zb1_some, e36_0, e36_1, e36_4, e36_5, e36_6, e36_9, e36_12, e36_15, e36_18, e36_19, e36_20, e36_21, e36_24, e36_27, e36_28, e36_31, s_sbLength]
    all_goals (split <;> rfl)
