/-! the reference's acts -/
theorem zpR_u1 {M T : zM} {j v : Int} (h : 0 ≤ j) (h2 : j < 10) : zup (zpR M T) 199 (81 + j) v = zpR M (zup T 1 j v) := zpR_up (by unfold sdom; omega) (by unfold rix; simp)
theorem zpR_u2 {M T : zM} {j v : Int} (h : 0 ≤ j) (h2 : j < 10) : zup (zpR M T) 199 (91 + j) v = zpR M (zup T 2 j v) := zpR_up (by unfold sdom; omega) (by unfold rix; simp)
theorem zpR_u3 {M T : zM} {j v : Int} (h : 0 ≤ j) (h2 : j < 5) : zup (zpR M T) 199 (101 + j) v = zpR M (zup T 3 j v) := zpR_up (by unfold sdom; omega) (by unfold rix; simp)
theorem zpR_u4 {M T : zM} {j v : Int} (h : 0 ≤ j) (h2 : j < 5) : zup (zpR M T) 199 (106 + j) v = zpR M (zup T 4 j v) := zpR_up (by unfold sdom; omega) (by unfold rix; simp)
theorem zpR_u5 {M T : zM} {j v : Int} (h : 0 ≤ j) (h2 : j < 5) : zup (zpR M T) 199 (111 + j) v = zpR M (zup T 5 j v) := zpR_up (by unfold sdom; omega) (by unfold rix; simp)
theorem zpR_u6 {M T : zM} {j v : Int} (h : 0 ≤ j) (h2 : j < 5) : zup (zpR M T) 199 (116 + j) v = zpR M (zup T 6 j v) := zpR_up (by unfold sdom; omega) (by unfold rix; simp)
theorem zpR_u7 {M T : zM} {j v : Int} (h : 0 ≤ j) (h2 : j < 5) : zup (zpR M T) 199 (121 + j) v = zpR M (zup T 7 j v) := zpR_up (by unfold sdom; omega) (by unfold rix; simp)
theorem zpR_u8 {M T : zM} {j v : Int} (h : 0 ≤ j) (h2 : j < 2) : zup (zpR M T) 199 (79 + j) v = zpR M (zup T 8 j v) := zpR_up (by unfold sdom; omega) (by unfold rix; simp)
theorem zpR_u08 {M T : zM} {v : Int} : zup (zpR M T) 199 77 v = zpR M (zup T 0 8 v) := zpR_up (by unfold sdom; omega) (by unfold rix; simp)
theorem zpR_u09 {M T : zM} {v : Int} : zup (zpR M T) 199 76 v = zpR M (zup T 0 9 v) := zpR_up (by unfold sdom; omega) (by unfold rix; simp)
theorem zpR_u0t {M T : zM} {v : Int} : zup (zpR M T) 199 75 v = zpR M (zup T 0 10 v) := zpR_up (by unfold sdom; omega) (by unfold rix; simp)
theorem zpR_uo {M T : zM} {x y v : Int} (h : x ≠ 199 ∨ y < 75 ∨ y = 78 ∨ 126 ≤ y) : zup (zpR M T) x y v = zpR (zup M x y v) T := by
  funext a b
  unfold zpR zup
  dsimp only
  by_cases hd : rdom a b
  · rw [zif_t hd, zif_t hd, if_neg]
    rintro ⟨rfl, rfl, -⟩
    unfold rdom at hd
    omega
  · rw [zif_f hd, zif_f hd]
theorem m227 (ph : Bool) (d : Nat) (a x0 p0 y0 : Int) (M : zM) : zEm ph (d + 1) 227 [(30, a, x0), (0, p0, y0)] M = zEv ph d 227 0 [(30, a, x0), (0, p0, y0), (3, 0, 0)] [] M := rfl
theorem e227_0 (ph : Bool) (d : Nat) (L st : List zV) (M : zM) : zEv ph d 227 0 L st M = zcont ph d 227 (zstep ph (zEm ph d) 0 1 0 [0] L st M) := zEv_step rfl
theorem e227_1 (ph : Bool) (d : Nat) (L st : List zV) (M : zM) : zEv ph d 227 1 L st M = zcont ph d 227 (zstep ph (zEm ph d) 5 2 0 [2] L st M) := zEv_step rfl
theorem e227_2 (ph : Bool) (d : Nat) (L st : List zV) (M : zM) : zEv ph d 227 2 L st M = zcont ph d 227 (zstep ph (zEm ph d) 2 3 0 [2] L st M) := zEv_step rfl
theorem e227_3 (ph : Bool) (d : Nat) (L st : List zV) (M : zM) : zEv ph d 227 3 L st M = zcont ph d 227 (zstep ph (zEm ph d) 4 4 0 [0] L st M) := zEv_step rfl
theorem e227_4 (ph : Bool) (d : Nat) (L st : List zV) (M : zM) : zEv ph d 227 4 L st M = zcont ph d 227 (zstep ph (zEm ph d) 62 7 0 [30, 14, 2, 10, 368] L st M) := zEv_step rfl
theorem e227_7 (ph : Bool) (d : Nat) (L st : List zV) (M : zM) : zEv ph d 227 7 L st M = zcont ph d 227 (zstep ph (zEm ph d) 0 8 0 [1] L st M) := zEv_step rfl
theorem e227_8 (ph : Bool) (d : Nat) (L st : List zV) (M : zM) : zEv ph d 227 8 L st M = zcont ph d 227 (zstep ph (zEm ph d) 85 9 0 [] L st M) := zEv_step rfl
theorem e227_9 (ph : Bool) (d : Nat) (L st : List zV) (M : zM) : zEv ph d 227 9 L st M = zcont ph d 227 (zstep ph (zEm ph d) 49 12 63 [] L st M) := zEv_step rfl
theorem e227_12 (ph : Bool) (d : Nat) (L st : List zV) (M : zM) : zEv ph d 227 12 L st M = zcont ph d 227 (zstep ph (zEm ph d) 4 13 0 [0] L st M) := zEv_step rfl
theorem e227_13 (ph : Bool) (d : Nat) (L st : List zV) (M : zM) : zEv ph d 227 13 L st M = zcont ph d 227 (zstep ph (zEm ph d) 62 16 0 [30, 14, 2, 10, 368] L st M) := zEv_step rfl
theorem e227_16 (ph : Bool) (d : Nat) (L st : List zV) (M : zM) : zEv ph d 227 16 L st M = zcont ph d 227 (zstep ph (zEm ph d) 0 18 0 [81] L st M) := zEv_step rfl
theorem e227_18 (ph : Bool) (d : Nat) (L st : List zV) (M : zM) : zEv ph d 227 18 L st M = zcont ph d 227 (zstep ph (zEm ph d) 2 19 0 [2] L st M) := zEv_step rfl
theorem e227_19 (ph : Bool) (d : Nat) (L st : List zV) (M : zM) : zEv ph d 227 19 L st M = zcont ph d 227 (zstep ph (zEm ph d) 10 20 0 [] L st M) := zEv_step rfl
theorem e227_20 (ph : Bool) (d : Nat) (L st : List zV) (M : zM) : zEv ph d 227 20 L st M = zcont ph d 227 (zstep ph (zEm ph d) 0 22 0 [20] L st M) := zEv_step rfl
theorem e227_22 (ph : Bool) (d : Nat) (L st : List zV) (M : zM) : zEv ph d 227 22 L st M = zcont ph d 227 (zstep ph (zEm ph d) 4 23 0 [0] L st M) := zEv_step rfl
theorem e227_23 (ph : Bool) (d : Nat) (L st : List zV) (M : zM) : zEv ph d 227 23 L st M = zcont ph d 227 (zstep ph (zEm ph d) 62 26 0 [30, 14, 2, 10, 368] L st M) := zEv_step rfl
theorem e227_26 (ph : Bool) (d : Nat) (L st : List zV) (M : zM) : zEv ph d 227 26 L st M = zcont ph d 227 (zstep ph (zEm ph d) 0 28 0 [81] L st M) := zEv_step rfl
theorem e227_28 (ph : Bool) (d : Nat) (L st : List zV) (M : zM) : zEv ph d 227 28 L st M = zcont ph d 227 (zstep ph (zEm ph d) 2 29 0 [2] L st M) := zEv_step rfl
theorem e227_29 (ph : Bool) (d : Nat) (L st : List zV) (M : zM) : zEv ph d 227 29 L st M = zcont ph d 227 (zstep ph (zEm ph d) 10 30 0 [] L st M) := zEv_step rfl
theorem e227_30 (ph : Bool) (d : Nat) (L st : List zV) (M : zM) : zEv ph d 227 30 L st M = zcont ph d 227 (zstep ph (zEm ph d) 85 31 0 [] L st M) := zEv_step rfl
theorem e227_31 (ph : Bool) (d : Nat) (L st : List zV) (M : zM) : zEv ph d 227 31 L st M = zcont ph d 227 (zstep ph (zEm ph d) 4 32 0 [0] L st M) := zEv_step rfl
theorem e227_32 (ph : Bool) (d : Nat) (L st : List zV) (M : zM) : zEv ph d 227 32 L st M = zcont ph d 227 (zstep ph (zEm ph d) 62 35 0 [30, 14, 2, 10, 368] L st M) := zEv_step rfl
theorem e227_35 (ph : Bool) (d : Nat) (L st : List zV) (M : zM) : zEv ph d 227 35 L st M = zcont ph d 227 (zstep ph (zEm ph d) 0 37 0 [50] L st M) := zEv_step rfl
theorem e227_37 (ph : Bool) (d : Nat) (L st : List zV) (M : zM) : zEv ph d 227 37 L st M = zcont ph d 227 (zstep ph (zEm ph d) 0 38 0 [5] L st M) := zEv_step rfl
theorem e227_38 (ph : Bool) (d : Nat) (L st : List zV) (M : zM) : zEv ph d 227 38 L st M = zcont ph d 227 (zstep ph (zEm ph d) 2 39 0 [1] L st M) := zEv_step rfl
theorem e227_39 (ph : Bool) (d : Nat) (L st : List zV) (M : zM) : zEv ph d 227 39 L st M = zcont ph d 227 (zstep ph (zEm ph d) 12 40 0 [] L st M) := zEv_step rfl
theorem e227_40 (ph : Bool) (d : Nat) (L st : List zV) (M : zM) : zEv ph d 227 40 L st M = zcont ph d 227 (zstep ph (zEm ph d) 10 41 0 [] L st M) := zEv_step rfl
theorem e227_41 (ph : Bool) (d : Nat) (L st : List zV) (M : zM) : zEv ph d 227 41 L st M = zcont ph d 227 (zstep ph (zEm ph d) 4 42 0 [0] L st M) := zEv_step rfl
theorem e227_42 (ph : Bool) (d : Nat) (L st : List zV) (M : zM) : zEv ph d 227 42 L st M = zcont ph d 227 (zstep ph (zEm ph d) 62 45 0 [30, 14, 2, 10, 368] L st M) := zEv_step rfl
theorem e227_45 (ph : Bool) (d : Nat) (L st : List zV) (M : zM) : zEv ph d 227 45 L st M = zcont ph d 227 (zstep ph (zEm ph d) 0 47 0 [9] L st M) := zEv_step rfl
theorem e227_47 (ph : Bool) (d : Nat) (L st : List zV) (M : zM) : zEv ph d 227 47 L st M = zcont ph d 227 (zstep ph (zEm ph d) 2 48 0 [2] L st M) := zEv_step rfl
theorem e227_48 (ph : Bool) (d : Nat) (L st : List zV) (M : zM) : zEv ph d 227 48 L st M = zcont ph d 227 (zstep ph (zEm ph d) 10 49 0 [] L st M) := zEv_step rfl
theorem e227_49 (ph : Bool) (d : Nat) (L st : List zV) (M : zM) : zEv ph d 227 49 L st M = zcont ph d 227 (zstep ph (zEm ph d) 85 50 0 [] L st M) := zEv_step rfl
theorem e227_50 (ph : Bool) (d : Nat) (L st : List zV) (M : zM) : zEv ph d 227 50 L st M = zcont ph d 227 (zstep ph (zEm ph d) 10 51 0 [] L st M) := zEv_step rfl
theorem e227_51 (ph : Bool) (d : Nat) (L st : List zV) (M : zM) : zEv ph d 227 51 L st M = zcont ph d 227 (zstep ph (zEm ph d) 85 52 0 [] L st M) := zEv_step rfl
theorem e227_52 (ph : Bool) (d : Nat) (L st : List zV) (M : zM) : zEv ph d 227 52 L st M = zcont ph d 227 (zstep ph (zEm ph d) 10 53 0 [] L st M) := zEv_step rfl
theorem e227_53 (ph : Bool) (d : Nat) (L st : List zV) (M : zM) : zEv ph d 227 53 L st M = zcont ph d 227 (zstep ph (zEm ph d) 70 56 171 [2, 1, -1] L st M) := zEv_step rfl
theorem e227_56 (ph : Bool) (d : Nat) (L st : List zV) (M : zM) : zEv ph d 227 56 L st M = zcont ph d 227 (zstep ph (zEm ph d) 89 57 0 [] L st M) := zEv_step rfl
theorem e227_57 (ph : Bool) (d : Nat) (L st : List zV) (M : zM) : zEv ph d 227 57 L st M = zcont ph d 227 (zstep ph (zEm ph d) 8 60 0 [2, 1] L st M) := zEv_step rfl
theorem e227_60 (ph : Bool) (d : Nat) (L st : List zV) (M : zM) : zEv ph d 227 60 L st M = zcont ph d 227 (zstep ph (zEm ph d) 52 63 2 [] L st M) := zEv_step rfl
theorem e227_63 (ph : Bool) (d : Nat) (L st : List zV) (M : zM) : zEv ph d 227 63 L st M = zcont ph d 227 (zstep ph (zEm ph d) 83 64 0 [] L st M) := zEv_step rfl
theorem m228 (ph : Bool) (d : Nat) (a x0 p0 y0 : Int) (M : zM) : zEm ph (d + 1) 228 [(30, a, x0), (0, p0, y0)] M = zEv ph d 228 0 [(30, a, x0), (0, p0, y0), (3, 0, 0)] [] M := rfl
theorem e228_0 (ph : Bool) (d : Nat) (L st : List zV) (M : zM) : zEv ph d 228 0 L st M = zcont ph d 228 (zstep ph (zEm ph d) 4 1 0 [0] L st M) := zEv_step rfl
theorem e228_1 (ph : Bool) (d : Nat) (L st : List zV) (M : zM) : zEv ph d 228 1 L st M = zcont ph d 228 (zstep ph (zEm ph d) 4 2 0 [0] L st M) := zEv_step rfl
theorem e228_2 (ph : Bool) (d : Nat) (L st : List zV) (M : zM) : zEv ph d 228 2 L st M = zcont ph d 228 (zstep ph (zEm ph d) 62 5 0 [30, 14, 2, 10, 368] L st M) := zEv_step rfl
theorem e228_5 (ph : Bool) (d : Nat) (L st : List zV) (M : zM) : zEv ph d 228 5 L st M = zcont ph d 228 (zstep ph (zEm ph d) 0 7 0 [101] L st M) := zEv_step rfl
theorem e228_7 (ph : Bool) (d : Nat) (L st : List zV) (M : zM) : zEv ph d 228 7 L st M = zcont ph d 228 (zstep ph (zEm ph d) 2 8 0 [1] L st M) := zEv_step rfl
theorem e228_8 (ph : Bool) (d : Nat) (L st : List zV) (M : zM) : zEv ph d 228 8 L st M = zcont ph d 228 (zstep ph (zEm ph d) 10 9 0 [] L st M) := zEv_step rfl
theorem e228_9 (ph : Bool) (d : Nat) (L st : List zV) (M : zM) : zEv ph d 228 9 L st M = zcont ph d 228 (zstep ph (zEm ph d) 85 10 0 [] L st M) := zEv_step rfl
theorem e228_10 (ph : Bool) (d : Nat) (L st : List zV) (M : zM) : zEv ph d 228 10 L st M = zcont ph d 228 (zstep ph (zEm ph d) 0 11 0 [0] L st M) := zEv_step rfl
theorem e228_11 (ph : Bool) (d : Nat) (L st : List zV) (M : zM) : zEv ph d 228 11 L st M = zcont ph d 228 (zstep ph (zEm ph d) 70 14 212 [3, 1, 30] L st M) := zEv_step rfl
theorem e228_14 (ph : Bool) (d : Nat) (L st : List zV) (M : zM) : zEv ph d 228 14 L st M = zcont ph d 228 (zstep ph (zEm ph d) 4 15 0 [0] L st M) := zEv_step rfl
theorem e228_15 (ph : Bool) (d : Nat) (L st : List zV) (M : zM) : zEv ph d 228 15 L st M = zcont ph d 228 (zstep ph (zEm ph d) 4 16 0 [0] L st M) := zEv_step rfl
theorem e228_16 (ph : Bool) (d : Nat) (L st : List zV) (M : zM) : zEv ph d 228 16 L st M = zcont ph d 228 (zstep ph (zEm ph d) 62 19 0 [30, 14, 2, 10, 368] L st M) := zEv_step rfl
theorem e228_19 (ph : Bool) (d : Nat) (L st : List zV) (M : zM) : zEv ph d 228 19 L st M = zcont ph d 228 (zstep ph (zEm ph d) 0 21 0 [106] L st M) := zEv_step rfl
theorem e228_21 (ph : Bool) (d : Nat) (L st : List zV) (M : zM) : zEv ph d 228 21 L st M = zcont ph d 228 (zstep ph (zEm ph d) 2 22 0 [1] L st M) := zEv_step rfl
theorem e228_22 (ph : Bool) (d : Nat) (L st : List zV) (M : zM) : zEv ph d 228 22 L st M = zcont ph d 228 (zstep ph (zEm ph d) 10 23 0 [] L st M) := zEv_step rfl
theorem e228_23 (ph : Bool) (d : Nat) (L st : List zV) (M : zM) : zEv ph d 228 23 L st M = zcont ph d 228 (zstep ph (zEm ph d) 85 24 0 [] L st M) := zEv_step rfl
theorem e228_24 (ph : Bool) (d : Nat) (L st : List zV) (M : zM) : zEv ph d 228 24 L st M = zcont ph d 228 (zstep ph (zEm ph d) 0 25 0 [1] L st M) := zEv_step rfl
theorem e228_25 (ph : Bool) (d : Nat) (L st : List zV) (M : zM) : zEv ph d 228 25 L st M = zcont ph d 228 (zstep ph (zEm ph d) 70 28 212 [3, 1, 30] L st M) := zEv_step rfl
theorem e228_28 (ph : Bool) (d : Nat) (L st : List zV) (M : zM) : zEv ph d 228 28 L st M = zcont ph d 228 (zstep ph (zEm ph d) 11 29 0 [] L st M) := zEv_step rfl
theorem e228_29 (ph : Bool) (d : Nat) (L st : List zV) (M : zM) : zEv ph d 228 29 L st M = zcont ph d 228 (zstep ph (zEm ph d) 5 30 0 [2] L st M) := zEv_step rfl
theorem e228_30 (ph : Bool) (d : Nat) (L st : List zV) (M : zM) : zEv ph d 228 30 L st M = zcont ph d 228 (zstep ph (zEm ph d) 4 31 0 [0] L st M) := zEv_step rfl
theorem e228_31 (ph : Bool) (d : Nat) (L st : List zV) (M : zM) : zEv ph d 228 31 L st M = zcont ph d 228 (zstep ph (zEm ph d) 62 34 0 [30, 14, 2, 10, 368] L st M) := zEv_step rfl
theorem e228_34 (ph : Bool) (d : Nat) (L st : List zV) (M : zM) : zEv ph d 228 34 L st M = zcont ph d 228 (zstep ph (zEm ph d) 0 36 0 [111] L st M) := zEv_step rfl
theorem e228_36 (ph : Bool) (d : Nat) (L st : List zV) (M : zM) : zEv ph d 228 36 L st M = zcont ph d 228 (zstep ph (zEm ph d) 2 37 0 [1] L st M) := zEv_step rfl
theorem e228_37 (ph : Bool) (d : Nat) (L st : List zV) (M : zM) : zEv ph d 228 37 L st M = zcont ph d 228 (zstep ph (zEm ph d) 10 38 0 [] L st M) := zEv_step rfl
theorem e228_38 (ph : Bool) (d : Nat) (L st : List zV) (M : zM) : zEv ph d 228 38 L st M = zcont ph d 228 (zstep ph (zEm ph d) 2 39 0 [2] L st M) := zEv_step rfl
theorem e228_39 (ph : Bool) (d : Nat) (L st : List zV) (M : zM) : zEv ph d 228 39 L st M = zcont ph d 228 (zstep ph (zEm ph d) 45 42 46 [] L st M) := zEv_step rfl
theorem e228_42 (ph : Bool) (d : Nat) (L st : List zV) (M : zM) : zEv ph d 228 42 L st M = zcont ph d 228 (zstep ph (zEm ph d) 0 43 0 [1] L st M) := zEv_step rfl
theorem e228_43 (ph : Bool) (d : Nat) (L st : List zV) (M : zM) : zEv ph d 228 43 L st M = zcont ph d 228 (zstep ph (zEm ph d) 52 46 47 [] L st M) := zEv_step rfl
theorem e228_46 (ph : Bool) (d : Nat) (L st : List zV) (M : zM) : zEv ph d 228 46 L st M = zcont ph d 228 (zstep ph (zEm ph d) 0 47 0 [2] L st M) := zEv_step rfl
theorem e228_47 (ph : Bool) (d : Nat) (L st : List zV) (M : zM) : zEv ph d 228 47 L st M = zcont ph d 228 (zstep ph (zEm ph d) 89 48 0 [] L st M) := zEv_step rfl
theorem e228_48 (ph : Bool) (d : Nat) (L st : List zV) (M : zM) : zEv ph d 228 48 L st M = zcont ph d 228 (zstep ph (zEm ph d) 4 49 0 [0] L st M) := zEv_step rfl
theorem e228_49 (ph : Bool) (d : Nat) (L st : List zV) (M : zM) : zEv ph d 228 49 L st M = zcont ph d 228 (zstep ph (zEm ph d) 62 52 0 [30, 14, 2, 10, 368] L st M) := zEv_step rfl
theorem e228_52 (ph : Bool) (d : Nat) (L st : List zV) (M : zM) : zEv ph d 228 52 L st M = zcont ph d 228 (zstep ph (zEm ph d) 0 54 0 [116] L st M) := zEv_step rfl
theorem e228_54 (ph : Bool) (d : Nat) (L st : List zV) (M : zM) : zEv ph d 228 54 L st M = zcont ph d 228 (zstep ph (zEm ph d) 2 55 0 [1] L st M) := zEv_step rfl
theorem e228_55 (ph : Bool) (d : Nat) (L st : List zV) (M : zM) : zEv ph d 228 55 L st M = zcont ph d 228 (zstep ph (zEm ph d) 10 56 0 [] L st M) := zEv_step rfl
theorem e228_56 (ph : Bool) (d : Nat) (L st : List zV) (M : zM) : zEv ph d 228 56 L st M = zcont ph d 228 (zstep ph (zEm ph d) 4 57 0 [0] L st M) := zEv_step rfl
theorem e228_57 (ph : Bool) (d : Nat) (L st : List zV) (M : zM) : zEv ph d 228 57 L st M = zcont ph d 228 (zstep ph (zEm ph d) 62 60 0 [30, 14, 2, 10, 368] L st M) := zEv_step rfl
theorem e228_60 (ph : Bool) (d : Nat) (L st : List zV) (M : zM) : zEv ph d 228 60 L st M = zcont ph d 228 (zstep ph (zEm ph d) 0 62 0 [75] L st M) := zEv_step rfl
theorem e228_62 (ph : Bool) (d : Nat) (L st : List zV) (M : zM) : zEv ph d 228 62 L st M = zcont ph d 228 (zstep ph (zEm ph d) 85 63 0 [] L st M) := zEv_step rfl
theorem e228_63 (ph : Bool) (d : Nat) (L st : List zV) (M : zM) : zEv ph d 228 63 L st M = zcont ph d 228 (zstep ph (zEm ph d) 89 64 0 [] L st M) := zEv_step rfl
theorem e228_64 (ph : Bool) (d : Nat) (L st : List zV) (M : zM) : zEv ph d 228 64 L st M = zcont ph d 228 (zstep ph (zEm ph d) 4 65 0 [0] L st M) := zEv_step rfl
theorem e228_65 (ph : Bool) (d : Nat) (L st : List zV) (M : zM) : zEv ph d 228 65 L st M = zcont ph d 228 (zstep ph (zEm ph d) 62 68 0 [30, 14, 2, 10, 368] L st M) := zEv_step rfl
theorem e228_68 (ph : Bool) (d : Nat) (L st : List zV) (M : zM) : zEv ph d 228 68 L st M = zcont ph d 228 (zstep ph (zEm ph d) 0 70 0 [121] L st M) := zEv_step rfl
theorem e228_70 (ph : Bool) (d : Nat) (L st : List zV) (M : zM) : zEv ph d 228 70 L st M = zcont ph d 228 (zstep ph (zEm ph d) 2 71 0 [1] L st M) := zEv_step rfl
theorem e228_71 (ph : Bool) (d : Nat) (L st : List zV) (M : zM) : zEv ph d 228 71 L st M = zcont ph d 228 (zstep ph (zEm ph d) 10 72 0 [] L st M) := zEv_step rfl
theorem e228_72 (ph : Bool) (d : Nat) (L st : List zV) (M : zM) : zEv ph d 228 72 L st M = zcont ph d 228 (zstep ph (zEm ph d) 2 73 0 [2] L st M) := zEv_step rfl
theorem e228_73 (ph : Bool) (d : Nat) (L st : List zV) (M : zM) : zEv ph d 228 73 L st M = zcont ph d 228 (zstep ph (zEm ph d) 70 76 172 [1, 1, -1] L st M) := zEv_step rfl
theorem e228_76 (ph : Bool) (d : Nat) (L st : List zV) (M : zM) : zEv ph d 228 76 L st M = zcont ph d 228 (zstep ph (zEm ph d) 89 77 0 [] L st M) := zEv_step rfl
theorem e228_77 (ph : Bool) (d : Nat) (L st : List zV) (M : zM) : zEv ph d 228 77 L st M = zcont ph d 228 (zstep ph (zEm ph d) 4 78 0 [0] L st M) := zEv_step rfl
theorem e228_78 (ph : Bool) (d : Nat) (L st : List zV) (M : zM) : zEv ph d 228 78 L st M = zcont ph d 228 (zstep ph (zEm ph d) 62 81 0 [30, 14, 2, 10, 368] L st M) := zEv_step rfl
theorem e228_81 (ph : Bool) (d : Nat) (L st : List zV) (M : zM) : zEv ph d 228 81 L st M = zcont ph d 228 (zstep ph (zEm ph d) 0 83 0 [78] L st M) := zEv_step rfl
theorem e228_83 (ph : Bool) (d : Nat) (L st : List zV) (M : zM) : zEv ph d 228 83 L st M = zcont ph d 228 (zstep ph (zEm ph d) 0 84 0 [1] L st M) := zEv_step rfl
theorem e228_84 (ph : Bool) (d : Nat) (L st : List zV) (M : zM) : zEv ph d 228 84 L st M = zcont ph d 228 (zstep ph (zEm ph d) 89 85 0 [] L st M) := zEv_step rfl
theorem e228_85 (ph : Bool) (d : Nat) (L st : List zV) (M : zM) : zEv ph d 228 85 L st M = zcont ph d 228 (zstep ph (zEm ph d) 2 86 0 [2] L st M) := zEv_step rfl
theorem e228_86 (ph : Bool) (d : Nat) (L st : List zV) (M : zM) : zEv ph d 228 86 L st M = zcont ph d 228 (zstep ph (zEm ph d) 45 89 94 [] L st M) := zEv_step rfl
theorem e228_89 (ph : Bool) (d : Nat) (L st : List zV) (M : zM) : zEv ph d 228 89 L st M = zcont ph d 228 (zstep ph (zEm ph d) 4 90 0 [0] L st M) := zEv_step rfl
theorem e228_90 (ph : Bool) (d : Nat) (L st : List zV) (M : zM) : zEv ph d 228 90 L st M = zcont ph d 228 (zstep ph (zEm ph d) 2 91 0 [1] L st M) := zEv_step rfl
theorem e228_91 (ph : Bool) (d : Nat) (L st : List zV) (M : zM) : zEv ph d 228 91 L st M = zcont ph d 228 (zstep ph (zEm ph d) 70 94 227 [2, 0, 30] L st M) := zEv_step rfl
theorem e228_94 (ph : Bool) (d : Nat) (L st : List zV) (M : zM) : zEv ph d 228 94 L st M = zcont ph d 228 (zstep ph (zEm ph d) 83 95 0 [] L st M) := zEv_step rfl
theorem m224 (ph : Bool) (d : Nat) (a x0 p0 y0 p1 y1 : Int) (M : zM) : zEm ph (d + 1) 224 [(30, a, x0), (0, p0, y0), (0, p1, y1)] M = zEv ph d 224 0 [(30, a, x0), (0, p0, y0), (0, p1, y1)] [] M := rfl
theorem e224_0 (ph : Bool) (d : Nat) (L st : List zV) (M : zM) : zEv ph d 224 0 L st M = zcont ph d 224 (zstep ph (zEm ph d) 4 1 0 [0] L st M) := zEv_step rfl
theorem e224_1 (ph : Bool) (d : Nat) (L st : List zV) (M : zM) : zEv ph d 224 1 L st M = zcont ph d 224 (zstep ph (zEm ph d) 62 4 0 [30, 14, 2, 10, 368] L st M) := zEv_step rfl
theorem e224_4 (ph : Bool) (d : Nat) (L st : List zV) (M : zM) : zEv ph d 224 4 L st M = zcont ph d 224 (zstep ph (zEm ph d) 0 6 0 [91] L st M) := zEv_step rfl
theorem e224_6 (ph : Bool) (d : Nat) (L st : List zV) (M : zM) : zEv ph d 224 6 L st M = zcont ph d 224 (zstep ph (zEm ph d) 2 7 0 [1] L st M) := zEv_step rfl
theorem e224_7 (ph : Bool) (d : Nat) (L st : List zV) (M : zM) : zEv ph d 224 7 L st M = zcont ph d 224 (zstep ph (zEm ph d) 10 8 0 [] L st M) := zEv_step rfl
theorem e224_8 (ph : Bool) (d : Nat) (L st : List zV) (M : zM) : zEv ph d 224 8 L st M = zcont ph d 224 (zstep ph (zEm ph d) 85 9 0 [] L st M) := zEv_step rfl
theorem e224_9 (ph : Bool) (d : Nat) (L st : List zV) (M : zM) : zEv ph d 224 9 L st M = zcont ph d 224 (zstep ph (zEm ph d) 2 10 0 [2] L st M) := zEv_step rfl
theorem e224_10 (ph : Bool) (d : Nat) (L st : List zV) (M : zM) : zEv ph d 224 10 L st M = zcont ph d 224 (zstep ph (zEm ph d) 4 11 0 [0] L st M) := zEv_step rfl
theorem e224_11 (ph : Bool) (d : Nat) (L st : List zV) (M : zM) : zEv ph d 224 11 L st M = zcont ph d 224 (zstep ph (zEm ph d) 62 14 0 [30, 14, 2, 10, 368] L st M) := zEv_step rfl
theorem e224_14 (ph : Bool) (d : Nat) (L st : List zV) (M : zM) : zEv ph d 224 14 L st M = zcont ph d 224 (zstep ph (zEm ph d) 0 15 0 [3] L st M) := zEv_step rfl
theorem e224_15 (ph : Bool) (d : Nat) (L st : List zV) (M : zM) : zEv ph d 224 15 L st M = zcont ph d 224 (zstep ph (zEm ph d) 85 16 0 [] L st M) := zEv_step rfl
theorem e224_16 (ph : Bool) (d : Nat) (L st : List zV) (M : zM) : zEv ph d 224 16 L st M = zcont ph d 224 (zstep ph (zEm ph d) 12 17 0 [] L st M) := zEv_step rfl
theorem e224_17 (ph : Bool) (d : Nat) (L st : List zV) (M : zM) : zEv ph d 224 17 L st M = zcont ph d 224 (zstep ph (zEm ph d) 49 20 24 [] L st M) := zEv_step rfl
theorem e224_20 (ph : Bool) (d : Nat) (L st : List zV) (M : zM) : zEv ph d 224 20 L st M = zcont ph d 224 (zstep ph (zEm ph d) 0 21 0 [1] L st M) := zEv_step rfl
theorem e224_21 (ph : Bool) (d : Nat) (L st : List zV) (M : zM) : zEv ph d 224 21 L st M = zcont ph d 224 (zstep ph (zEm ph d) 52 24 45 [] L st M) := zEv_step rfl
theorem e224_24 (ph : Bool) (d : Nat) (L st : List zV) (M : zM) : zEv ph d 224 24 L st M = zcont ph d 224 (zstep ph (zEm ph d) 4 25 0 [0] L st M) := zEv_step rfl
theorem e224_25 (ph : Bool) (d : Nat) (L st : List zV) (M : zM) : zEv ph d 224 25 L st M = zcont ph d 224 (zstep ph (zEm ph d) 62 28 0 [30, 14, 2, 10, 368] L st M) := zEv_step rfl
theorem e224_28 (ph : Bool) (d : Nat) (L st : List zV) (M : zM) : zEv ph d 224 28 L st M = zcont ph d 224 (zstep ph (zEm ph d) 0 30 0 [81] L st M) := zEv_step rfl
theorem e224_30 (ph : Bool) (d : Nat) (L st : List zV) (M : zM) : zEv ph d 224 30 L st M = zcont ph d 224 (zstep ph (zEm ph d) 2 31 0 [1] L st M) := zEv_step rfl
theorem e224_31 (ph : Bool) (d : Nat) (L st : List zV) (M : zM) : zEv ph d 224 31 L st M = zcont ph d 224 (zstep ph (zEm ph d) 10 32 0 [] L st M) := zEv_step rfl
theorem e224_32 (ph : Bool) (d : Nat) (L st : List zV) (M : zM) : zEv ph d 224 32 L st M = zcont ph d 224 (zstep ph (zEm ph d) 85 33 0 [] L st M) := zEv_step rfl
theorem e224_33 (ph : Bool) (d : Nat) (L st : List zV) (M : zM) : zEv ph d 224 33 L st M = zcont ph d 224 (zstep ph (zEm ph d) 2 34 0 [2] L st M) := zEv_step rfl
theorem e224_34 (ph : Bool) (d : Nat) (L st : List zV) (M : zM) : zEv ph d 224 34 L st M = zcont ph d 224 (zstep ph (zEm ph d) 10 35 0 [] L st M) := zEv_step rfl
theorem e224_35 (ph : Bool) (d : Nat) (L st : List zV) (M : zM) : zEv ph d 224 35 L st M = zcont ph d 224 (zstep ph (zEm ph d) 0 37 0 [20] L st M) := zEv_step rfl
theorem e224_37 (ph : Bool) (d : Nat) (L st : List zV) (M : zM) : zEv ph d 224 37 L st M = zcont ph d 224 (zstep ph (zEm ph d) 51 40 44 [] L st M) := zEv_step rfl
theorem e224_40 (ph : Bool) (d : Nat) (L st : List zV) (M : zM) : zEv ph d 224 40 L st M = zcont ph d 224 (zstep ph (zEm ph d) 0 41 0 [2] L st M) := zEv_step rfl
theorem e224_41 (ph : Bool) (d : Nat) (L st : List zV) (M : zM) : zEv ph d 224 41 L st M = zcont ph d 224 (zstep ph (zEm ph d) 52 44 45 [] L st M) := zEv_step rfl
theorem e224_44 (ph : Bool) (d : Nat) (L st : List zV) (M : zM) : zEv ph d 224 44 L st M = zcont ph d 224 (zstep ph (zEm ph d) 0 45 0 [0] L st M) := zEv_step rfl
theorem e224_45 (ph : Bool) (d : Nat) (L st : List zV) (M : zM) : zEv ph d 224 45 L st M = zcont ph d 224 (zstep ph (zEm ph d) 80 46 0 [] L st M) := zEv_step rfl
theorem m225 (ph : Bool) (d : Nat) (a x0 p0 y0 : Int) (M : zM) : zEm ph (d + 1) 225 [(30, a, x0), (0, p0, y0)] M = zEv ph d 225 0 [(30, a, x0), (0, p0, y0)] [] M := rfl
theorem e225_0 (ph : Bool) (d : Nat) (L st : List zV) (M : zM) : zEv ph d 225 0 L st M = zcont ph d 225 (zstep ph (zEm ph d) 4 1 0 [0] L st M) := zEv_step rfl
theorem e225_1 (ph : Bool) (d : Nat) (L st : List zV) (M : zM) : zEv ph d 225 1 L st M = zcont ph d 225 (zstep ph (zEm ph d) 62 4 0 [30, 14, 2, 10, 368] L st M) := zEv_step rfl
theorem e225_4 (ph : Bool) (d : Nat) (L st : List zV) (M : zM) : zEv ph d 225 4 L st M = zcont ph d 225 (zstep ph (zEm ph d) 0 6 0 [111] L st M) := zEv_step rfl
theorem e225_6 (ph : Bool) (d : Nat) (L st : List zV) (M : zM) : zEv ph d 225 6 L st M = zcont ph d 225 (zstep ph (zEm ph d) 2 7 0 [1] L st M) := zEv_step rfl
theorem e225_7 (ph : Bool) (d : Nat) (L st : List zV) (M : zM) : zEv ph d 225 7 L st M = zcont ph d 225 (zstep ph (zEm ph d) 10 8 0 [] L st M) := zEv_step rfl
theorem e225_8 (ph : Bool) (d : Nat) (L st : List zV) (M : zM) : zEv ph d 225 8 L st M = zcont ph d 225 (zstep ph (zEm ph d) 85 9 0 [] L st M) := zEv_step rfl
theorem e225_9 (ph : Bool) (d : Nat) (L st : List zV) (M : zM) : zEv ph d 225 9 L st M = zcont ph d 225 (zstep ph (zEm ph d) 40 12 16 [] L st M) := zEv_step rfl
theorem e225_12 (ph : Bool) (d : Nat) (L st : List zV) (M : zM) : zEv ph d 225 12 L st M = zcont ph d 225 (zstep ph (zEm ph d) 0 13 0 [1] L st M) := zEv_step rfl
theorem e225_13 (ph : Bool) (d : Nat) (L st : List zV) (M : zM) : zEv ph d 225 13 L st M = zcont ph d 225 (zstep ph (zEm ph d) 52 16 47 [] L st M) := zEv_step rfl
theorem e225_16 (ph : Bool) (d : Nat) (L st : List zV) (M : zM) : zEv ph d 225 16 L st M = zcont ph d 225 (zstep ph (zEm ph d) 4 17 0 [0] L st M) := zEv_step rfl
theorem e225_17 (ph : Bool) (d : Nat) (L st : List zV) (M : zM) : zEv ph d 225 17 L st M = zcont ph d 225 (zstep ph (zEm ph d) 62 20 0 [30, 14, 2, 10, 368] L st M) := zEv_step rfl
theorem e225_20 (ph : Bool) (d : Nat) (L st : List zV) (M : zM) : zEv ph d 225 20 L st M = zcont ph d 225 (zstep ph (zEm ph d) 0 22 0 [76] L st M) := zEv_step rfl
theorem e225_22 (ph : Bool) (d : Nat) (L st : List zV) (M : zM) : zEv ph d 225 22 L st M = zcont ph d 225 (zstep ph (zEm ph d) 85 23 0 [] L st M) := zEv_step rfl
theorem e225_23 (ph : Bool) (d : Nat) (L st : List zV) (M : zM) : zEv ph d 225 23 L st M = zcont ph d 225 (zstep ph (zEm ph d) 0 24 0 [2] L st M) := zEv_step rfl
theorem e225_24 (ph : Bool) (d : Nat) (L st : List zV) (M : zM) : zEv ph d 225 24 L st M = zcont ph d 225 (zstep ph (zEm ph d) 47 27 31 [] L st M) := zEv_step rfl
theorem e225_27 (ph : Bool) (d : Nat) (L st : List zV) (M : zM) : zEv ph d 225 27 L st M = zcont ph d 225 (zstep ph (zEm ph d) 0 28 0 [2] L st M) := zEv_step rfl
theorem e225_28 (ph : Bool) (d : Nat) (L st : List zV) (M : zM) : zEv ph d 225 28 L st M = zcont ph d 225 (zstep ph (zEm ph d) 52 31 47 [] L st M) := zEv_step rfl
theorem e225_31 (ph : Bool) (d : Nat) (L st : List zV) (M : zM) : zEv ph d 225 31 L st M = zcont ph d 225 (zstep ph (zEm ph d) 4 32 0 [0] L st M) := zEv_step rfl
theorem e225_32 (ph : Bool) (d : Nat) (L st : List zV) (M : zM) : zEv ph d 225 32 L st M = zcont ph d 225 (zstep ph (zEm ph d) 62 35 0 [30, 14, 2, 10, 368] L st M) := zEv_step rfl
theorem e225_35 (ph : Bool) (d : Nat) (L st : List zV) (M : zM) : zEv ph d 225 35 L st M = zcont ph d 225 (zstep ph (zEm ph d) 0 37 0 [78] L st M) := zEv_step rfl
theorem e225_37 (ph : Bool) (d : Nat) (L st : List zV) (M : zM) : zEv ph d 225 37 L st M = zcont ph d 225 (zstep ph (zEm ph d) 85 38 0 [] L st M) := zEv_step rfl
theorem e225_38 (ph : Bool) (d : Nat) (L st : List zV) (M : zM) : zEv ph d 225 38 L st M = zcont ph d 225 (zstep ph (zEm ph d) 0 39 0 [1] L st M) := zEv_step rfl
theorem e225_39 (ph : Bool) (d : Nat) (L st : List zV) (M : zM) : zEv ph d 225 39 L st M = zcont ph d 225 (zstep ph (zEm ph d) 47 42 46 [] L st M) := zEv_step rfl
theorem e225_42 (ph : Bool) (d : Nat) (L st : List zV) (M : zM) : zEv ph d 225 42 L st M = zcont ph d 225 (zstep ph (zEm ph d) 0 43 0 [3] L st M) := zEv_step rfl
theorem e225_43 (ph : Bool) (d : Nat) (L st : List zV) (M : zM) : zEv ph d 225 43 L st M = zcont ph d 225 (zstep ph (zEm ph d) 52 46 47 [] L st M) := zEv_step rfl
theorem e225_46 (ph : Bool) (d : Nat) (L st : List zV) (M : zM) : zEv ph d 225 46 L st M = zcont ph d 225 (zstep ph (zEm ph d) 0 47 0 [0] L st M) := zEv_step rfl
theorem e225_47 (ph : Bool) (d : Nat) (L st : List zV) (M : zM) : zEv ph d 225 47 L st M = zcont ph d 225 (zstep ph (zEm ph d) 80 48 0 [] L st M) := zEv_step rfl
theorem m240 (ph : Bool) (d : Nat) (a x0 : Int) (M : zM) : zEm ph (d + 1) 240 [(30, a, x0)] M = zEv ph d 240 0 [(30, a, x0), (3, 0, 0)] [] M := rfl
theorem e240_0 (ph : Bool) (d : Nat) (L st : List zV) (M : zM) : zEv ph d 240 0 L st M = zcont ph d 240 (zstep ph (zEm ph d) 0 1 0 [0] L st M) := zEv_step rfl
theorem e240_1 (ph : Bool) (d : Nat) (L st : List zV) (M : zM) : zEv ph d 240 1 L st M = zcont ph d 240 (zstep ph (zEm ph d) 5 2 0 [1] L st M) := zEv_step rfl
theorem e240_2 (ph : Bool) (d : Nat) (L st : List zV) (M : zM) : zEv ph d 240 2 L st M = zcont ph d 240 (zstep ph (zEm ph d) 2 3 0 [1] L st M) := zEv_step rfl
theorem e240_3 (ph : Bool) (d : Nat) (L st : List zV) (M : zM) : zEv ph d 240 3 L st M = zcont ph d 240 (zstep ph (zEm ph d) 4 4 0 [0] L st M) := zEv_step rfl
theorem e240_4 (ph : Bool) (d : Nat) (L st : List zV) (M : zM) : zEv ph d 240 4 L st M = zcont ph d 240 (zstep ph (zEm ph d) 62 7 0 [30, 14, 2, 10, 368] L st M) := zEv_step rfl
theorem e240_7 (ph : Bool) (d : Nat) (L st : List zV) (M : zM) : zEv ph d 240 7 L st M = zcont ph d 240 (zstep ph (zEm ph d) 0 8 0 [1] L st M) := zEv_step rfl
theorem e240_8 (ph : Bool) (d : Nat) (L st : List zV) (M : zM) : zEv ph d 240 8 L st M = zcont ph d 240 (zstep ph (zEm ph d) 85 9 0 [] L st M) := zEv_step rfl
theorem e240_9 (ph : Bool) (d : Nat) (L st : List zV) (M : zM) : zEv ph d 240 9 L st M = zcont ph d 240 (zstep ph (zEm ph d) 49 12 63 [] L st M) := zEv_step rfl
theorem e240_12 (ph : Bool) (d : Nat) (L st : List zV) (M : zM) : zEv ph d 240 12 L st M = zcont ph d 240 (zstep ph (zEm ph d) 4 13 0 [0] L st M) := zEv_step rfl
theorem e240_13 (ph : Bool) (d : Nat) (L st : List zV) (M : zM) : zEv ph d 240 13 L st M = zcont ph d 240 (zstep ph (zEm ph d) 62 16 0 [30, 14, 2, 10, 368] L st M) := zEv_step rfl
theorem e240_16 (ph : Bool) (d : Nat) (L st : List zV) (M : zM) : zEv ph d 240 16 L st M = zcont ph d 240 (zstep ph (zEm ph d) 0 18 0 [77] L st M) := zEv_step rfl
theorem e240_18 (ph : Bool) (d : Nat) (L st : List zV) (M : zM) : zEv ph d 240 18 L st M = zcont ph d 240 (zstep ph (zEm ph d) 85 19 0 [] L st M) := zEv_step rfl
theorem e240_19 (ph : Bool) (d : Nat) (L st : List zV) (M : zM) : zEv ph d 240 19 L st M = zcont ph d 240 (zstep ph (zEm ph d) 2 20 0 [1] L st M) := zEv_step rfl
theorem e240_20 (ph : Bool) (d : Nat) (L st : List zV) (M : zM) : zEv ph d 240 20 L st M = zcont ph d 240 (zstep ph (zEm ph d) 70 23 169 [2, 1, -1] L st M) := zEv_step rfl
theorem e240_23 (ph : Bool) (d : Nat) (L st : List zV) (M : zM) : zEv ph d 240 23 L st M = zcont ph d 240 (zstep ph (zEm ph d) 41 26 57 [] L st M) := zEv_step rfl
theorem e240_26 (ph : Bool) (d : Nat) (L st : List zV) (M : zM) : zEv ph d 240 26 L st M = zcont ph d 240 (zstep ph (zEm ph d) 4 27 0 [0] L st M) := zEv_step rfl
theorem e240_27 (ph : Bool) (d : Nat) (L st : List zV) (M : zM) : zEv ph d 240 27 L st M = zcont ph d 240 (zstep ph (zEm ph d) 62 30 0 [30, 14, 2, 10, 368] L st M) := zEv_step rfl
theorem e240_30 (ph : Bool) (d : Nat) (L st : List zV) (M : zM) : zEv ph d 240 30 L st M = zcont ph d 240 (zstep ph (zEm ph d) 0 32 0 [91] L st M) := zEv_step rfl
theorem e240_32 (ph : Bool) (d : Nat) (L st : List zV) (M : zM) : zEv ph d 240 32 L st M = zcont ph d 240 (zstep ph (zEm ph d) 2 33 0 [1] L st M) := zEv_step rfl
theorem e240_33 (ph : Bool) (d : Nat) (L st : List zV) (M : zM) : zEv ph d 240 33 L st M = zcont ph d 240 (zstep ph (zEm ph d) 10 34 0 [] L st M) := zEv_step rfl
theorem e240_34 (ph : Bool) (d : Nat) (L st : List zV) (M : zM) : zEv ph d 240 34 L st M = zcont ph d 240 (zstep ph (zEm ph d) 0 37 0 [999] L st M) := zEv_step rfl
theorem e240_37 (ph : Bool) (d : Nat) (L st : List zV) (M : zM) : zEv ph d 240 37 L st M = zcont ph d 240 (zstep ph (zEm ph d) 4 38 0 [0] L st M) := zEv_step rfl
theorem e240_38 (ph : Bool) (d : Nat) (L st : List zV) (M : zM) : zEv ph d 240 38 L st M = zcont ph d 240 (zstep ph (zEm ph d) 62 41 0 [30, 14, 2, 10, 368] L st M) := zEv_step rfl
theorem e240_41 (ph : Bool) (d : Nat) (L st : List zV) (M : zM) : zEv ph d 240 41 L st M = zcont ph d 240 (zstep ph (zEm ph d) 0 43 0 [91] L st M) := zEv_step rfl
theorem e240_43 (ph : Bool) (d : Nat) (L st : List zV) (M : zM) : zEv ph d 240 43 L st M = zcont ph d 240 (zstep ph (zEm ph d) 2 44 0 [1] L st M) := zEv_step rfl
theorem e240_44 (ph : Bool) (d : Nat) (L st : List zV) (M : zM) : zEv ph d 240 44 L st M = zcont ph d 240 (zstep ph (zEm ph d) 10 45 0 [] L st M) := zEv_step rfl
theorem e240_45 (ph : Bool) (d : Nat) (L st : List zV) (M : zM) : zEv ph d 240 45 L st M = zcont ph d 240 (zstep ph (zEm ph d) 85 46 0 [] L st M) := zEv_step rfl
theorem e240_46 (ph : Bool) (d : Nat) (L st : List zV) (M : zM) : zEv ph d 240 46 L st M = zcont ph d 240 (zstep ph (zEm ph d) 4 47 0 [0] L st M) := zEv_step rfl
theorem e240_47 (ph : Bool) (d : Nat) (L st : List zV) (M : zM) : zEv ph d 240 47 L st M = zcont ph d 240 (zstep ph (zEm ph d) 62 50 0 [30, 14, 2, 10, 368] L st M) := zEv_step rfl
theorem e240_50 (ph : Bool) (d : Nat) (L st : List zV) (M : zM) : zEv ph d 240 50 L st M = zcont ph d 240 (zstep ph (zEm ph d) 0 51 0 [4] L st M) := zEv_step rfl
theorem e240_51 (ph : Bool) (d : Nat) (L st : List zV) (M : zM) : zEv ph d 240 51 L st M = zcont ph d 240 (zstep ph (zEm ph d) 85 52 0 [] L st M) := zEv_step rfl
theorem e240_52 (ph : Bool) (d : Nat) (L st : List zV) (M : zM) : zEv ph d 240 52 L st M = zcont ph d 240 (zstep ph (zEm ph d) 10 53 0 [] L st M) := zEv_step rfl
theorem e240_53 (ph : Bool) (d : Nat) (L st : List zV) (M : zM) : zEv ph d 240 53 L st M = zcont ph d 240 (zstep ph (zEm ph d) 70 56 171 [2, 1, -1] L st M) := zEv_step rfl
theorem e240_56 (ph : Bool) (d : Nat) (L st : List zV) (M : zM) : zEv ph d 240 56 L st M = zcont ph d 240 (zstep ph (zEm ph d) 89 57 0 [] L st M) := zEv_step rfl
theorem e240_57 (ph : Bool) (d : Nat) (L st : List zV) (M : zM) : zEv ph d 240 57 L st M = zcont ph d 240 (zstep ph (zEm ph d) 8 60 0 [1, 1] L st M) := zEv_step rfl
theorem e240_60 (ph : Bool) (d : Nat) (L st : List zV) (M : zM) : zEv ph d 240 60 L st M = zcont ph d 240 (zstep ph (zEm ph d) 52 63 2 [] L st M) := zEv_step rfl
theorem e240_63 (ph : Bool) (d : Nat) (L st : List zV) (M : zM) : zEv ph d 240 63 L st M = zcont ph d 240 (zstep ph (zEm ph d) 4 64 0 [0] L st M) := zEv_step rfl
theorem e240_64 (ph : Bool) (d : Nat) (L st : List zV) (M : zM) : zEv ph d 240 64 L st M = zcont ph d 240 (zstep ph (zEm ph d) 62 67 0 [30, 14, 2, 10, 368] L st M) := zEv_step rfl
theorem e240_67 (ph : Bool) (d : Nat) (L st : List zV) (M : zM) : zEv ph d 240 67 L st M = zcont ph d 240 (zstep ph (zEm ph d) 0 69 0 [76] L st M) := zEv_step rfl
theorem e240_69 (ph : Bool) (d : Nat) (L st : List zV) (M : zM) : zEv ph d 240 69 L st M = zcont ph d 240 (zstep ph (zEm ph d) 0 70 0 [0] L st M) := zEv_step rfl
theorem e240_70 (ph : Bool) (d : Nat) (L st : List zV) (M : zM) : zEv ph d 240 70 L st M = zcont ph d 240 (zstep ph (zEm ph d) 89 71 0 [] L st M) := zEv_step rfl
theorem e240_71 (ph : Bool) (d : Nat) (L st : List zV) (M : zM) : zEv ph d 240 71 L st M = zcont ph d 240 (zstep ph (zEm ph d) 4 72 0 [0] L st M) := zEv_step rfl
theorem e240_72 (ph : Bool) (d : Nat) (L st : List zV) (M : zM) : zEv ph d 240 72 L st M = zcont ph d 240 (zstep ph (zEm ph d) 62 75 0 [30, 14, 2, 10, 368] L st M) := zEv_step rfl
theorem e240_75 (ph : Bool) (d : Nat) (L st : List zV) (M : zM) : zEv ph d 240 75 L st M = zcont ph d 240 (zstep ph (zEm ph d) 0 77 0 [78] L st M) := zEv_step rfl
theorem e240_77 (ph : Bool) (d : Nat) (L st : List zV) (M : zM) : zEv ph d 240 77 L st M = zcont ph d 240 (zstep ph (zEm ph d) 0 78 0 [0] L st M) := zEv_step rfl
theorem e240_78 (ph : Bool) (d : Nat) (L st : List zV) (M : zM) : zEv ph d 240 78 L st M = zcont ph d 240 (zstep ph (zEm ph d) 89 79 0 [] L st M) := zEv_step rfl
theorem e240_79 (ph : Bool) (d : Nat) (L st : List zV) (M : zM) : zEv ph d 240 79 L st M = zcont ph d 240 (zstep ph (zEm ph d) 4 80 0 [0] L st M) := zEv_step rfl
theorem e240_80 (ph : Bool) (d : Nat) (L st : List zV) (M : zM) : zEv ph d 240 80 L st M = zcont ph d 240 (zstep ph (zEm ph d) 62 83 0 [30, 14, 2, 10, 368] L st M) := zEv_step rfl
theorem e240_83 (ph : Bool) (d : Nat) (L st : List zV) (M : zM) : zEv ph d 240 83 L st M = zcont ph d 240 (zstep ph (zEm ph d) 0 85 0 [75] L st M) := zEv_step rfl
theorem e240_85 (ph : Bool) (d : Nat) (L st : List zV) (M : zM) : zEv ph d 240 85 L st M = zcont ph d 240 (zstep ph (zEm ph d) 37 86 0 [] L st M) := zEv_step rfl
theorem e240_86 (ph : Bool) (d : Nat) (L st : List zV) (M : zM) : zEv ph d 240 86 L st M = zcont ph d 240 (zstep ph (zEm ph d) 85 87 0 [] L st M) := zEv_step rfl
theorem e240_87 (ph : Bool) (d : Nat) (L st : List zV) (M : zM) : zEv ph d 240 87 L st M = zcont ph d 240 (zstep ph (zEm ph d) 0 88 0 [1] L st M) := zEv_step rfl
theorem e240_88 (ph : Bool) (d : Nat) (L st : List zV) (M : zM) : zEv ph d 240 88 L st M = zcont ph d 240 (zstep ph (zEm ph d) 10 89 0 [] L st M) := zEv_step rfl
theorem e240_89 (ph : Bool) (d : Nat) (L st : List zV) (M : zM) : zEv ph d 240 89 L st M = zcont ph d 240 (zstep ph (zEm ph d) 89 90 0 [] L st M) := zEv_step rfl
theorem e240_90 (ph : Bool) (d : Nat) (L st : List zV) (M : zM) : zEv ph d 240 90 L st M = zcont ph d 240 (zstep ph (zEm ph d) 83 91 0 [] L st M) := zEv_step rfl
theorem m241 (ph : Bool) (d : Nat) (a x0 p0 y0 : Int) (M : zM) : zEm ph (d + 1) 241 [(30, a, x0), (0, p0, y0)] M = zEv ph d 241 0 [(30, a, x0), (0, p0, y0), (3, 0, 0), (3, 0, 0)] [] M := rfl
theorem e241_0 (ph : Bool) (d : Nat) (L st : List zV) (M : zM) : zEv ph d 241 0 L st M = zcont ph d 241 (zstep ph (zEm ph d) 2 1 0 [1] L st M) := zEv_step rfl
theorem e241_1 (ph : Bool) (d : Nat) (L st : List zV) (M : zM) : zEv ph d 241 1 L st M = zcont ph d 241 (zstep ph (zEm ph d) 0 4 0 [400] L st M) := zEv_step rfl
theorem e241_4 (ph : Bool) (d : Nat) (L st : List zV) (M : zM) : zEv ph d 241 4 L st M = zcont ph d 241 (zstep ph (zEm ph d) 4 5 0 [0] L st M) := zEv_step rfl
theorem e241_5 (ph : Bool) (d : Nat) (L st : List zV) (M : zM) : zEv ph d 241 5 L st M = zcont ph d 241 (zstep ph (zEm ph d) 62 8 0 [30, 14, 2, 10, 368] L st M) := zEv_step rfl
theorem e241_8 (ph : Bool) (d : Nat) (L st : List zV) (M : zM) : zEv ph d 241 8 L st M = zcont ph d 241 (zstep ph (zEm ph d) 0 10 0 [75] L st M) := zEv_step rfl
theorem e241_10 (ph : Bool) (d : Nat) (L st : List zV) (M : zM) : zEv ph d 241 10 L st M = zcont ph d 241 (zstep ph (zEm ph d) 85 11 0 [] L st M) := zEv_step rfl
theorem e241_11 (ph : Bool) (d : Nat) (L st : List zV) (M : zM) : zEv ph d 241 11 L st M = zcont ph d 241 (zstep ph (zEm ph d) 11 12 0 [] L st M) := zEv_step rfl
theorem e241_12 (ph : Bool) (d : Nat) (L st : List zV) (M : zM) : zEv ph d 241 12 L st M = zcont ph d 241 (zstep ph (zEm ph d) 70 15 171 [2, 1, -1] L st M) := zEv_step rfl
theorem e241_15 (ph : Bool) (d : Nat) (L st : List zV) (M : zM) : zEv ph d 241 15 L st M = zcont ph d 241 (zstep ph (zEm ph d) 5 16 0 [2] L st M) := zEv_step rfl
theorem e241_16 (ph : Bool) (d : Nat) (L st : List zV) (M : zM) : zEv ph d 241 16 L st M = zcont ph d 241 (zstep ph (zEm ph d) 0 17 0 [0] L st M) := zEv_step rfl
theorem e241_17 (ph : Bool) (d : Nat) (L st : List zV) (M : zM) : zEv ph d 241 17 L st M = zcont ph d 241 (zstep ph (zEm ph d) 5 18 0 [3] L st M) := zEv_step rfl
theorem e241_18 (ph : Bool) (d : Nat) (L st : List zV) (M : zM) : zEv ph d 241 18 L st M = zcont ph d 241 (zstep ph (zEm ph d) 2 19 0 [3] L st M) := zEv_step rfl
theorem e241_19 (ph : Bool) (d : Nat) (L st : List zV) (M : zM) : zEv ph d 241 19 L st M = zcont ph d 241 (zstep ph (zEm ph d) 2 20 0 [2] L st M) := zEv_step rfl
theorem e241_20 (ph : Bool) (d : Nat) (L st : List zV) (M : zM) : zEv ph d 241 20 L st M = zcont ph d 241 (zstep ph (zEm ph d) 49 23 33 [] L st M) := zEv_step rfl
theorem e241_23 (ph : Bool) (d : Nat) (L st : List zV) (M : zM) : zEv ph d 241 23 L st M = zcont ph d 241 (zstep ph (zEm ph d) 4 24 0 [0] L st M) := zEv_step rfl
theorem e241_24 (ph : Bool) (d : Nat) (L st : List zV) (M : zM) : zEv ph d 241 24 L st M = zcont ph d 241 (zstep ph (zEm ph d) 70 27 240 [1, 0, 30] L st M) := zEv_step rfl
theorem e241_27 (ph : Bool) (d : Nat) (L st : List zV) (M : zM) : zEv ph d 241 27 L st M = zcont ph d 241 (zstep ph (zEm ph d) 8 30 0 [3, 1] L st M) := zEv_step rfl
theorem e241_30 (ph : Bool) (d : Nat) (L st : List zV) (M : zM) : zEv ph d 241 30 L st M = zcont ph d 241 (zstep ph (zEm ph d) 52 33 18 [] L st M) := zEv_step rfl
theorem e241_33 (ph : Bool) (d : Nat) (L st : List zV) (M : zM) : zEv ph d 241 33 L st M = zcont ph d 241 (zstep ph (zEm ph d) 2 34 0 [2] L st M) := zEv_step rfl
theorem e241_34 (ph : Bool) (d : Nat) (L st : List zV) (M : zM) : zEv ph d 241 34 L st M = zcont ph d 241 (zstep ph (zEm ph d) 80 35 0 [] L st M) := zEv_step rfl
theorem m229 (ph : Bool) (d : Nat) (a x0 p0 y0 p1 y1 p2 y2 : Int) (M : zM) : zEm ph (d + 1) 229 [(30, a, x0), (0, p0, y0), (0, p1, y1), (0, p2, y2)] M = zEv ph d 229 0 [(30, a, x0), (0, p0, y0), (0, p1, y1), (0, p2, y2)] [] M := rfl
theorem e229_0 (ph : Bool) (d : Nat) (L st : List zV) (M : zM) : zEv ph d 229 0 L st M = zcont ph d 229 (zstep ph (zEm ph d) 4 1 0 [0] L st M) := zEv_step rfl
theorem e229_1 (ph : Bool) (d : Nat) (L st : List zV) (M : zM) : zEv ph d 229 1 L st M = zcont ph d 229 (zstep ph (zEm ph d) 62 4 0 [30, 14, 2, 10, 368] L st M) := zEv_step rfl
theorem e229_4 (ph : Bool) (d : Nat) (L st : List zV) (M : zM) : zEv ph d 229 4 L st M = zcont ph d 229 (zstep ph (zEm ph d) 0 6 0 [101] L st M) := zEv_step rfl
theorem e229_6 (ph : Bool) (d : Nat) (L st : List zV) (M : zM) : zEv ph d 229 6 L st M = zcont ph d 229 (zstep ph (zEm ph d) 2 7 0 [2] L st M) := zEv_step rfl
theorem e229_7 (ph : Bool) (d : Nat) (L st : List zV) (M : zM) : zEv ph d 229 7 L st M = zcont ph d 229 (zstep ph (zEm ph d) 10 8 0 [] L st M) := zEv_step rfl
theorem e229_8 (ph : Bool) (d : Nat) (L st : List zV) (M : zM) : zEv ph d 229 8 L st M = zcont ph d 229 (zstep ph (zEm ph d) 37 9 0 [] L st M) := zEv_step rfl
theorem e229_9 (ph : Bool) (d : Nat) (L st : List zV) (M : zM) : zEv ph d 229 9 L st M = zcont ph d 229 (zstep ph (zEm ph d) 85 10 0 [] L st M) := zEv_step rfl
theorem e229_10 (ph : Bool) (d : Nat) (L st : List zV) (M : zM) : zEv ph d 229 10 L st M = zcont ph d 229 (zstep ph (zEm ph d) 0 11 0 [1] L st M) := zEv_step rfl
theorem e229_11 (ph : Bool) (d : Nat) (L st : List zV) (M : zM) : zEv ph d 229 11 L st M = zcont ph d 229 (zstep ph (zEm ph d) 2 12 0 [1] L st M) := zEv_step rfl
theorem e229_12 (ph : Bool) (d : Nat) (L st : List zV) (M : zM) : zEv ph d 229 12 L st M = zcont ph d 229 (zstep ph (zEm ph d) 19 13 0 [] L st M) := zEv_step rfl
theorem e229_13 (ph : Bool) (d : Nat) (L st : List zV) (M : zM) : zEv ph d 229 13 L st M = zcont ph d 229 (zstep ph (zEm ph d) 0 14 0 [-1] L st M) := zEv_step rfl
theorem e229_14 (ph : Bool) (d : Nat) (L st : List zV) (M : zM) : zEv ph d 229 14 L st M = zcont ph d 229 (zstep ph (zEm ph d) 18 15 0 [] L st M) := zEv_step rfl
theorem e229_15 (ph : Bool) (d : Nat) (L st : List zV) (M : zM) : zEv ph d 229 15 L st M = zcont ph d 229 (zstep ph (zEm ph d) 16 16 0 [] L st M) := zEv_step rfl
theorem e229_16 (ph : Bool) (d : Nat) (L st : List zV) (M : zM) : zEv ph d 229 16 L st M = zcont ph d 229 (zstep ph (zEm ph d) 89 17 0 [] L st M) := zEv_step rfl
theorem e229_17 (ph : Bool) (d : Nat) (L st : List zV) (M : zM) : zEv ph d 229 17 L st M = zcont ph d 229 (zstep ph (zEm ph d) 4 18 0 [0] L st M) := zEv_step rfl
theorem e229_18 (ph : Bool) (d : Nat) (L st : List zV) (M : zM) : zEv ph d 229 18 L st M = zcont ph d 229 (zstep ph (zEm ph d) 62 21 0 [30, 14, 2, 10, 368] L st M) := zEv_step rfl
theorem e229_21 (ph : Bool) (d : Nat) (L st : List zV) (M : zM) : zEv ph d 229 21 L st M = zcont ph d 229 (zstep ph (zEm ph d) 0 23 0 [106] L st M) := zEv_step rfl
theorem e229_23 (ph : Bool) (d : Nat) (L st : List zV) (M : zM) : zEv ph d 229 23 L st M = zcont ph d 229 (zstep ph (zEm ph d) 2 24 0 [2] L st M) := zEv_step rfl
theorem e229_24 (ph : Bool) (d : Nat) (L st : List zV) (M : zM) : zEv ph d 229 24 L st M = zcont ph d 229 (zstep ph (zEm ph d) 10 25 0 [] L st M) := zEv_step rfl
theorem e229_25 (ph : Bool) (d : Nat) (L st : List zV) (M : zM) : zEv ph d 229 25 L st M = zcont ph d 229 (zstep ph (zEm ph d) 37 26 0 [] L st M) := zEv_step rfl
theorem e229_26 (ph : Bool) (d : Nat) (L st : List zV) (M : zM) : zEv ph d 229 26 L st M = zcont ph d 229 (zstep ph (zEm ph d) 85 27 0 [] L st M) := zEv_step rfl
theorem e229_27 (ph : Bool) (d : Nat) (L st : List zV) (M : zM) : zEv ph d 229 27 L st M = zcont ph d 229 (zstep ph (zEm ph d) 0 28 0 [1] L st M) := zEv_step rfl
theorem e229_28 (ph : Bool) (d : Nat) (L st : List zV) (M : zM) : zEv ph d 229 28 L st M = zcont ph d 229 (zstep ph (zEm ph d) 2 29 0 [1] L st M) := zEv_step rfl
theorem e229_29 (ph : Bool) (d : Nat) (L st : List zV) (M : zM) : zEv ph d 229 29 L st M = zcont ph d 229 (zstep ph (zEm ph d) 19 30 0 [] L st M) := zEv_step rfl
theorem e229_30 (ph : Bool) (d : Nat) (L st : List zV) (M : zM) : zEv ph d 229 30 L st M = zcont ph d 229 (zstep ph (zEm ph d) 0 31 0 [-1] L st M) := zEv_step rfl
theorem e229_31 (ph : Bool) (d : Nat) (L st : List zV) (M : zM) : zEv ph d 229 31 L st M = zcont ph d 229 (zstep ph (zEm ph d) 18 32 0 [] L st M) := zEv_step rfl
theorem e229_32 (ph : Bool) (d : Nat) (L st : List zV) (M : zM) : zEv ph d 229 32 L st M = zcont ph d 229 (zstep ph (zEm ph d) 16 33 0 [] L st M) := zEv_step rfl
theorem e229_33 (ph : Bool) (d : Nat) (L st : List zV) (M : zM) : zEv ph d 229 33 L st M = zcont ph d 229 (zstep ph (zEm ph d) 89 34 0 [] L st M) := zEv_step rfl
theorem e229_34 (ph : Bool) (d : Nat) (L st : List zV) (M : zM) : zEv ph d 229 34 L st M = zcont ph d 229 (zstep ph (zEm ph d) 4 35 0 [0] L st M) := zEv_step rfl
theorem e229_35 (ph : Bool) (d : Nat) (L st : List zV) (M : zM) : zEv ph d 229 35 L st M = zcont ph d 229 (zstep ph (zEm ph d) 62 38 0 [30, 14, 2, 10, 368] L st M) := zEv_step rfl
theorem e229_38 (ph : Bool) (d : Nat) (L st : List zV) (M : zM) : zEv ph d 229 38 L st M = zcont ph d 229 (zstep ph (zEm ph d) 2 39 0 [3] L st M) := zEv_step rfl
theorem e229_39 (ph : Bool) (d : Nat) (L st : List zV) (M : zM) : zEv ph d 229 39 L st M = zcont ph d 229 (zstep ph (zEm ph d) 41 42 47 [] L st M) := zEv_step rfl
theorem e229_42 (ph : Bool) (d : Nat) (L st : List zV) (M : zM) : zEv ph d 229 42 L st M = zcont ph d 229 (zstep ph (zEm ph d) 0 44 0 [101] L st M) := zEv_step rfl
theorem e229_44 (ph : Bool) (d : Nat) (L st : List zV) (M : zM) : zEv ph d 229 44 L st M = zcont ph d 229 (zstep ph (zEm ph d) 52 47 49 [] L st M) := zEv_step rfl
theorem e229_47 (ph : Bool) (d : Nat) (L st : List zV) (M : zM) : zEv ph d 229 47 L st M = zcont ph d 229 (zstep ph (zEm ph d) 0 49 0 [106] L st M) := zEv_step rfl
theorem e229_49 (ph : Bool) (d : Nat) (L st : List zV) (M : zM) : zEv ph d 229 49 L st M = zcont ph d 229 (zstep ph (zEm ph d) 2 50 0 [2] L st M) := zEv_step rfl
theorem e229_50 (ph : Bool) (d : Nat) (L st : List zV) (M : zM) : zEv ph d 229 50 L st M = zcont ph d 229 (zstep ph (zEm ph d) 10 51 0 [] L st M) := zEv_step rfl
theorem e229_51 (ph : Bool) (d : Nat) (L st : List zV) (M : zM) : zEv ph d 229 51 L st M = zcont ph d 229 (zstep ph (zEm ph d) 37 52 0 [] L st M) := zEv_step rfl
theorem e229_52 (ph : Bool) (d : Nat) (L st : List zV) (M : zM) : zEv ph d 229 52 L st M = zcont ph d 229 (zstep ph (zEm ph d) 85 53 0 [] L st M) := zEv_step rfl
theorem e229_53 (ph : Bool) (d : Nat) (L st : List zV) (M : zM) : zEv ph d 229 53 L st M = zcont ph d 229 (zstep ph (zEm ph d) 0 54 0 [1] L st M) := zEv_step rfl
theorem e229_54 (ph : Bool) (d : Nat) (L st : List zV) (M : zM) : zEv ph d 229 54 L st M = zcont ph d 229 (zstep ph (zEm ph d) 2 55 0 [1] L st M) := zEv_step rfl
theorem e229_55 (ph : Bool) (d : Nat) (L st : List zV) (M : zM) : zEv ph d 229 55 L st M = zcont ph d 229 (zstep ph (zEm ph d) 19 56 0 [] L st M) := zEv_step rfl
theorem e229_56 (ph : Bool) (d : Nat) (L st : List zV) (M : zM) : zEv ph d 229 56 L st M = zcont ph d 229 (zstep ph (zEm ph d) 17 57 0 [] L st M) := zEv_step rfl
theorem e229_57 (ph : Bool) (d : Nat) (L st : List zV) (M : zM) : zEv ph d 229 57 L st M = zcont ph d 229 (zstep ph (zEm ph d) 89 58 0 [] L st M) := zEv_step rfl
theorem e229_58 (ph : Bool) (d : Nat) (L st : List zV) (M : zM) : zEv ph d 229 58 L st M = zcont ph d 229 (zstep ph (zEm ph d) 83 59 0 [] L st M) := zEv_step rfl
theorem m223 (ph : Bool) (d : Nat) (a x0 : Int) (M : zM) : zEm ph (d + 1) 223 [(30, a, x0)] M = zEv ph d 223 0 [(30, a, x0), (3, 0, 0)] [] M := rfl
theorem e223_0 (ph : Bool) (d : Nat) (L st : List zV) (M : zM) : zEv ph d 223 0 L st M = zcont ph d 223 (zstep ph (zEm ph d) 4 1 0 [0] L st M) := zEv_step rfl
theorem e223_1 (ph : Bool) (d : Nat) (L st : List zV) (M : zM) : zEv ph d 223 1 L st M = zcont ph d 223 (zstep ph (zEm ph d) 60 4 0 [30, 24] L st M) := zEv_step rfl
theorem e223_4 (ph : Bool) (d : Nat) (L st : List zV) (M : zM) : zEv ph d 223 4 L st M = zcont ph d 223 (zstep ph (zEm ph d) 0 6 0 [8] L st M) := zEv_step rfl
theorem e223_6 (ph : Bool) (d : Nat) (L st : List zV) (M : zM) : zEv ph d 223 6 L st M = zcont ph d 223 (zstep ph (zEm ph d) 47 9 49 [] L st M) := zEv_step rfl
theorem e223_9 (ph : Bool) (d : Nat) (L st : List zV) (M : zM) : zEv ph d 223 9 L st M = zcont ph d 223 (zstep ph (zEm ph d) 0 10 0 [0] L st M) := zEv_step rfl
theorem e223_10 (ph : Bool) (d : Nat) (L st : List zV) (M : zM) : zEv ph d 223 10 L st M = zcont ph d 223 (zstep ph (zEm ph d) 5 11 0 [1] L st M) := zEv_step rfl
theorem e223_11 (ph : Bool) (d : Nat) (L st : List zV) (M : zM) : zEv ph d 223 11 L st M = zcont ph d 223 (zstep ph (zEm ph d) 2 12 0 [1] L st M) := zEv_step rfl
theorem e223_12 (ph : Bool) (d : Nat) (L st : List zV) (M : zM) : zEv ph d 223 12 L st M = zcont ph d 223 (zstep ph (zEm ph d) 0 15 0 [357] L st M) := zEv_step rfl
theorem e223_15 (ph : Bool) (d : Nat) (L st : List zV) (M : zM) : zEv ph d 223 15 L st M = zcont ph d 223 (zstep ph (zEm ph d) 49 18 39 [] L st M) := zEv_step rfl
theorem e223_18 (ph : Bool) (d : Nat) (L st : List zV) (M : zM) : zEv ph d 223 18 L st M = zcont ph d 223 (zstep ph (zEm ph d) 4 19 0 [0] L st M) := zEv_step rfl
theorem e223_19 (ph : Bool) (d : Nat) (L st : List zV) (M : zM) : zEv ph d 223 19 L st M = zcont ph d 223 (zstep ph (zEm ph d) 62 22 0 [30, 17, 5, 10, 408] L st M) := zEv_step rfl
theorem e223_22 (ph : Bool) (d : Nat) (L st : List zV) (M : zM) : zEv ph d 223 22 L st M = zcont ph d 223 (zstep ph (zEm ph d) 2 23 0 [1] L st M) := zEv_step rfl
theorem e223_23 (ph : Bool) (d : Nat) (L st : List zV) (M : zM) : zEv ph d 223 23 L st M = zcont ph d 223 (zstep ph (zEm ph d) 4 24 0 [0] L st M) := zEv_step rfl
theorem e223_24 (ph : Bool) (d : Nat) (L st : List zV) (M : zM) : zEv ph d 223 24 L st M = zcont ph d 223 (zstep ph (zEm ph d) 62 27 0 [30, 17, 5, 10, 408] L st M) := zEv_step rfl
theorem e223_27 (ph : Bool) (d : Nat) (L st : List zV) (M : zM) : zEv ph d 223 27 L st M = zcont ph d 223 (zstep ph (zEm ph d) 2 28 0 [1] L st M) := zEv_step rfl
theorem e223_28 (ph : Bool) (d : Nat) (L st : List zV) (M : zM) : zEv ph d 223 28 L st M = zcont ph d 223 (zstep ph (zEm ph d) 0 30 0 [51] L st M) := zEv_step rfl
theorem e223_30 (ph : Bool) (d : Nat) (L st : List zV) (M : zM) : zEv ph d 223 30 L st M = zcont ph d 223 (zstep ph (zEm ph d) 10 31 0 [] L st M) := zEv_step rfl
theorem e223_31 (ph : Bool) (d : Nat) (L st : List zV) (M : zM) : zEv ph d 223 31 L st M = zcont ph d 223 (zstep ph (zEm ph d) 85 32 0 [] L st M) := zEv_step rfl
theorem e223_32 (ph : Bool) (d : Nat) (L st : List zV) (M : zM) : zEv ph d 223 32 L st M = zcont ph d 223 (zstep ph (zEm ph d) 89 33 0 [] L st M) := zEv_step rfl
theorem e223_33 (ph : Bool) (d : Nat) (L st : List zV) (M : zM) : zEv ph d 223 33 L st M = zcont ph d 223 (zstep ph (zEm ph d) 8 36 0 [1, 1] L st M) := zEv_step rfl
theorem e223_36 (ph : Bool) (d : Nat) (L st : List zV) (M : zM) : zEv ph d 223 36 L st M = zcont ph d 223 (zstep ph (zEm ph d) 52 39 11 [] L st M) := zEv_step rfl
theorem e223_39 (ph : Bool) (d : Nat) (L st : List zV) (M : zM) : zEv ph d 223 39 L st M = zcont ph d 223 (zstep ph (zEm ph d) 4 40 0 [0] L st M) := zEv_step rfl
theorem e223_40 (ph : Bool) (d : Nat) (L st : List zV) (M : zM) : zEv ph d 223 40 L st M = zcont ph d 223 (zstep ph (zEm ph d) 36 41 0 [] L st M) := zEv_step rfl
theorem e223_41 (ph : Bool) (d : Nat) (L st : List zV) (M : zM) : zEv ph d 223 41 L st M = zcont ph d 223 (zstep ph (zEm ph d) 60 44 0 [30, 24] L st M) := zEv_step rfl
theorem e223_44 (ph : Bool) (d : Nat) (L st : List zV) (M : zM) : zEv ph d 223 44 L st M = zcont ph d 223 (zstep ph (zEm ph d) 0 45 0 [1] L st M) := zEv_step rfl
theorem e223_45 (ph : Bool) (d : Nat) (L st : List zV) (M : zM) : zEv ph d 223 45 L st M = zcont ph d 223 (zstep ph (zEm ph d) 11 46 0 [] L st M) := zEv_step rfl
theorem e223_46 (ph : Bool) (d : Nat) (L st : List zV) (M : zM) : zEv ph d 223 46 L st M = zcont ph d 223 (zstep ph (zEm ph d) 65 49 0 [30, 24] L st M) := zEv_step rfl
theorem e223_49 (ph : Bool) (d : Nat) (L st : List zV) (M : zM) : zEv ph d 223 49 L st M = zcont ph d 223 (zstep ph (zEm ph d) 0 50 0 [0] L st M) := zEv_step rfl
theorem e223_50 (ph : Bool) (d : Nat) (L st : List zV) (M : zM) : zEv ph d 223 50 L st M = zcont ph d 223 (zstep ph (zEm ph d) 5 51 0 [1] L st M) := zEv_step rfl
theorem e223_51 (ph : Bool) (d : Nat) (L st : List zV) (M : zM) : zEv ph d 223 51 L st M = zcont ph d 223 (zstep ph (zEm ph d) 2 52 0 [1] L st M) := zEv_step rfl
theorem e223_52 (ph : Bool) (d : Nat) (L st : List zV) (M : zM) : zEv ph d 223 52 L st M = zcont ph d 223 (zstep ph (zEm ph d) 0 54 0 [51] L st M) := zEv_step rfl
theorem e223_54 (ph : Bool) (d : Nat) (L st : List zV) (M : zM) : zEv ph d 223 54 L st M = zcont ph d 223 (zstep ph (zEm ph d) 49 57 86 [] L st M) := zEv_step rfl
theorem e223_57 (ph : Bool) (d : Nat) (L st : List zV) (M : zM) : zEv ph d 223 57 L st M = zcont ph d 223 (zstep ph (zEm ph d) 4 58 0 [0] L st M) := zEv_step rfl
theorem e223_58 (ph : Bool) (d : Nat) (L st : List zV) (M : zM) : zEv ph d 223 58 L st M = zcont ph d 223 (zstep ph (zEm ph d) 62 61 0 [30, 17, 5, 10, 408] L st M) := zEv_step rfl
theorem e223_61 (ph : Bool) (d : Nat) (L st : List zV) (M : zM) : zEv ph d 223 61 L st M = zcont ph d 223 (zstep ph (zEm ph d) 0 63 0 [51] L st M) := zEv_step rfl
theorem e223_63 (ph : Bool) (d : Nat) (L st : List zV) (M : zM) : zEv ph d 223 63 L st M = zcont ph d 223 (zstep ph (zEm ph d) 4 64 0 [0] L st M) := zEv_step rfl
theorem e223_64 (ph : Bool) (d : Nat) (L st : List zV) (M : zM) : zEv ph d 223 64 L st M = zcont ph d 223 (zstep ph (zEm ph d) 60 67 0 [30, 24] L st M) := zEv_step rfl
theorem e223_67 (ph : Bool) (d : Nat) (L st : List zV) (M : zM) : zEv ph d 223 67 L st M = zcont ph d 223 (zstep ph (zEm ph d) 12 68 0 [] L st M) := zEv_step rfl
theorem e223_68 (ph : Bool) (d : Nat) (L st : List zV) (M : zM) : zEv ph d 223 68 L st M = zcont ph d 223 (zstep ph (zEm ph d) 2 69 0 [1] L st M) := zEv_step rfl
theorem e223_69 (ph : Bool) (d : Nat) (L st : List zV) (M : zM) : zEv ph d 223 69 L st M = zcont ph d 223 (zstep ph (zEm ph d) 10 70 0 [] L st M) := zEv_step rfl
theorem e223_70 (ph : Bool) (d : Nat) (L st : List zV) (M : zM) : zEv ph d 223 70 L st M = zcont ph d 223 (zstep ph (zEm ph d) 4 71 0 [0] L st M) := zEv_step rfl
theorem e223_71 (ph : Bool) (d : Nat) (L st : List zV) (M : zM) : zEv ph d 223 71 L st M = zcont ph d 223 (zstep ph (zEm ph d) 62 74 0 [30, 14, 2, 10, 368] L st M) := zEv_step rfl
theorem e223_74 (ph : Bool) (d : Nat) (L st : List zV) (M : zM) : zEv ph d 223 74 L st M = zcont ph d 223 (zstep ph (zEm ph d) 0 76 0 [75] L st M) := zEv_step rfl
theorem e223_76 (ph : Bool) (d : Nat) (L st : List zV) (M : zM) : zEv ph d 223 76 L st M = zcont ph d 223 (zstep ph (zEm ph d) 2 77 0 [1] L st M) := zEv_step rfl
theorem e223_77 (ph : Bool) (d : Nat) (L st : List zV) (M : zM) : zEv ph d 223 77 L st M = zcont ph d 223 (zstep ph (zEm ph d) 10 78 0 [] L st M) := zEv_step rfl
theorem e223_78 (ph : Bool) (d : Nat) (L st : List zV) (M : zM) : zEv ph d 223 78 L st M = zcont ph d 223 (zstep ph (zEm ph d) 85 79 0 [] L st M) := zEv_step rfl
theorem e223_79 (ph : Bool) (d : Nat) (L st : List zV) (M : zM) : zEv ph d 223 79 L st M = zcont ph d 223 (zstep ph (zEm ph d) 89 80 0 [] L st M) := zEv_step rfl
theorem e223_80 (ph : Bool) (d : Nat) (L st : List zV) (M : zM) : zEv ph d 223 80 L st M = zcont ph d 223 (zstep ph (zEm ph d) 8 83 0 [1, 1] L st M) := zEv_step rfl
theorem e223_83 (ph : Bool) (d : Nat) (L st : List zV) (M : zM) : zEv ph d 223 83 L st M = zcont ph d 223 (zstep ph (zEm ph d) 52 86 51 [] L st M) := zEv_step rfl
theorem e223_86 (ph : Bool) (d : Nat) (L st : List zV) (M : zM) : zEv ph d 223 86 L st M = zcont ph d 223 (zstep ph (zEm ph d) 4 87 0 [0] L st M) := zEv_step rfl
theorem e223_87 (ph : Bool) (d : Nat) (L st : List zV) (M : zM) : zEv ph d 223 87 L st M = zcont ph d 223 (zstep ph (zEm ph d) 36 88 0 [] L st M) := zEv_step rfl
theorem e223_88 (ph : Bool) (d : Nat) (L st : List zV) (M : zM) : zEv ph d 223 88 L st M = zcont ph d 223 (zstep ph (zEm ph d) 60 91 0 [30, 24] L st M) := zEv_step rfl
theorem e223_91 (ph : Bool) (d : Nat) (L st : List zV) (M : zM) : zEv ph d 223 91 L st M = zcont ph d 223 (zstep ph (zEm ph d) 0 92 0 [1] L st M) := zEv_step rfl
theorem e223_92 (ph : Bool) (d : Nat) (L st : List zV) (M : zM) : zEv ph d 223 92 L st M = zcont ph d 223 (zstep ph (zEm ph d) 10 93 0 [] L st M) := zEv_step rfl
theorem e223_93 (ph : Bool) (d : Nat) (L st : List zV) (M : zM) : zEv ph d 223 93 L st M = zcont ph d 223 (zstep ph (zEm ph d) 65 96 0 [30, 24] L st M) := zEv_step rfl
theorem e223_96 (ph : Bool) (d : Nat) (L st : List zV) (M : zM) : zEv ph d 223 96 L st M = zcont ph d 223 (zstep ph (zEm ph d) 83 97 0 [] L st M) := zEv_step rfl
theorem m226 (ph : Bool) (d : Nat) (a x0 p0 y0 p1 y1 p2 y2 p3 y3 : Int) (M : zM) : zEm ph (d + 1) 226 [(30, a, x0), (0, p0, y0), (0, p1, y1), (0, p2, y2), (0, p3, y3)] M = zEv ph d 226 0 [(30, a, x0), (0, p0, y0), (0, p1, y1), (0, p2, y2), (0, p3, y3)] [] M := rfl
theorem e226_0 (ph : Bool) (d : Nat) (L st : List zV) (M : zM) : zEv ph d 226 0 L st M = zcont ph d 226 (zstep ph (zEm ph d) 2 1 0 [1] L st M) := zEv_step rfl
theorem e226_1 (ph : Bool) (d : Nat) (a y : Int) (L st : List zV) (M : zM) : zEv ph d 226 1 L ((0, a, y) :: st) M = dite (a = 0) (fun _ => zEv ph d 226 40 L st M) (fun _ => dite (a = 1) (fun _ => zEv ph d 226 47 L st M) (fun _ => dite (a = 2) (fun _ => zEv ph d 226 67 L st M) (fun _ => dite (a = 3) (fun _ => zEv ph d 226 87 L st M) (fun _ => dite (a = 4) (fun _ => zEv ph d 226 120 L st M) (fun _ => dite (a = 5) (fun _ => zEv ph d 226 126 L st M) (fun _ => zEv ph d 226 145 L st M)))))) := (zEv_step (op := 56) (nx := 40) (tg := 145) (r := [0, 40, 47, 67, 87, 120, 126]) rfl).trans (zts6 (fun q => zEv ph d 226 q L st M))
theorem e226_40 (ph : Bool) (d : Nat) (L st : List zV) (M : zM) : zEv ph d 226 40 L st M = zcont ph d 226 (zstep ph (zEm ph d) 4 41 0 [0] L st M) := zEv_step rfl
theorem e226_41 (ph : Bool) (d : Nat) (L st : List zV) (M : zM) : zEv ph d 226 41 L st M = zcont ph d 226 (zstep ph (zEm ph d) 2 42 0 [2] L st M) := zEv_step rfl
theorem e226_42 (ph : Bool) (d : Nat) (L st : List zV) (M : zM) : zEv ph d 226 42 L st M = zcont ph d 226 (zstep ph (zEm ph d) 2 43 0 [3] L st M) := zEv_step rfl
theorem e226_43 (ph : Bool) (d : Nat) (L st : List zV) (M : zM) : zEv ph d 226 43 L st M = zcont ph d 226 (zstep ph (zEm ph d) 70 46 224 [3, 1, 30] L st M) := zEv_step rfl
theorem e226_46 (ph : Bool) (d : Nat) (L st : List zV) (M : zM) : zEv ph d 226 46 L st M = zcont ph d 226 (zstep ph (zEm ph d) 80 47 0 [] L st M) := zEv_step rfl
theorem e226_47 (ph : Bool) (d : Nat) (L st : List zV) (M : zM) : zEv ph d 226 47 L st M = zcont ph d 226 (zstep ph (zEm ph d) 4 48 0 [0] L st M) := zEv_step rfl
theorem e226_48 (ph : Bool) (d : Nat) (L st : List zV) (M : zM) : zEv ph d 226 48 L st M = zcont ph d 226 (zstep ph (zEm ph d) 62 51 0 [30, 14, 2, 10, 368] L st M) := zEv_step rfl
theorem e226_51 (ph : Bool) (d : Nat) (L st : List zV) (M : zM) : zEv ph d 226 51 L st M = zcont ph d 226 (zstep ph (zEm ph d) 0 53 0 [77] L st M) := zEv_step rfl
theorem e226_53 (ph : Bool) (d : Nat) (L st : List zV) (M : zM) : zEv ph d 226 53 L st M = zcont ph d 226 (zstep ph (zEm ph d) 85 54 0 [] L st M) := zEv_step rfl
theorem e226_54 (ph : Bool) (d : Nat) (L st : List zV) (M : zM) : zEv ph d 226 54 L st M = zcont ph d 226 (zstep ph (zEm ph d) 2 55 0 [2] L st M) := zEv_step rfl
theorem e226_55 (ph : Bool) (d : Nat) (L st : List zV) (M : zM) : zEv ph d 226 55 L st M = zcont ph d 226 (zstep ph (zEm ph d) 70 58 169 [2, 1, -1] L st M) := zEv_step rfl
theorem e226_58 (ph : Bool) (d : Nat) (L st : List zV) (M : zM) : zEv ph d 226 58 L st M = zcont ph d 226 (zstep ph (zEm ph d) 40 61 65 [] L st M) := zEv_step rfl
theorem e226_61 (ph : Bool) (d : Nat) (L st : List zV) (M : zM) : zEv ph d 226 61 L st M = zcont ph d 226 (zstep ph (zEm ph d) 0 62 0 [1] L st M) := zEv_step rfl
theorem e226_62 (ph : Bool) (d : Nat) (L st : List zV) (M : zM) : zEv ph d 226 62 L st M = zcont ph d 226 (zstep ph (zEm ph d) 52 65 66 [] L st M) := zEv_step rfl
theorem e226_65 (ph : Bool) (d : Nat) (L st : List zV) (M : zM) : zEv ph d 226 65 L st M = zcont ph d 226 (zstep ph (zEm ph d) 0 66 0 [0] L st M) := zEv_step rfl
theorem e226_66 (ph : Bool) (d : Nat) (L st : List zV) (M : zM) : zEv ph d 226 66 L st M = zcont ph d 226 (zstep ph (zEm ph d) 80 67 0 [] L st M) := zEv_step rfl
theorem e226_67 (ph : Bool) (d : Nat) (L st : List zV) (M : zM) : zEv ph d 226 67 L st M = zcont ph d 226 (zstep ph (zEm ph d) 4 68 0 [0] L st M) := zEv_step rfl
theorem e226_68 (ph : Bool) (d : Nat) (L st : List zV) (M : zM) : zEv ph d 226 68 L st M = zcont ph d 226 (zstep ph (zEm ph d) 62 71 0 [30, 14, 2, 10, 368] L st M) := zEv_step rfl
theorem e226_71 (ph : Bool) (d : Nat) (L st : List zV) (M : zM) : zEv ph d 226 71 L st M = zcont ph d 226 (zstep ph (zEm ph d) 0 73 0 [77] L st M) := zEv_step rfl
theorem e226_73 (ph : Bool) (d : Nat) (L st : List zV) (M : zM) : zEv ph d 226 73 L st M = zcont ph d 226 (zstep ph (zEm ph d) 85 74 0 [] L st M) := zEv_step rfl
theorem e226_74 (ph : Bool) (d : Nat) (L st : List zV) (M : zM) : zEv ph d 226 74 L st M = zcont ph d 226 (zstep ph (zEm ph d) 2 75 0 [2] L st M) := zEv_step rfl
theorem e226_75 (ph : Bool) (d : Nat) (L st : List zV) (M : zM) : zEv ph d 226 75 L st M = zcont ph d 226 (zstep ph (zEm ph d) 70 78 169 [2, 1, -1] L st M) := zEv_step rfl
theorem e226_78 (ph : Bool) (d : Nat) (L st : List zV) (M : zM) : zEv ph d 226 78 L st M = zcont ph d 226 (zstep ph (zEm ph d) 40 81 85 [] L st M) := zEv_step rfl
theorem e226_81 (ph : Bool) (d : Nat) (L st : List zV) (M : zM) : zEv ph d 226 81 L st M = zcont ph d 226 (zstep ph (zEm ph d) 0 82 0 [0] L st M) := zEv_step rfl
theorem e226_82 (ph : Bool) (d : Nat) (L st : List zV) (M : zM) : zEv ph d 226 82 L st M = zcont ph d 226 (zstep ph (zEm ph d) 52 85 86 [] L st M) := zEv_step rfl
theorem e226_85 (ph : Bool) (d : Nat) (L st : List zV) (M : zM) : zEv ph d 226 85 L st M = zcont ph d 226 (zstep ph (zEm ph d) 0 86 0 [1] L st M) := zEv_step rfl
theorem e226_86 (ph : Bool) (d : Nat) (L st : List zV) (M : zM) : zEv ph d 226 86 L st M = zcont ph d 226 (zstep ph (zEm ph d) 80 87 0 [] L st M) := zEv_step rfl
theorem e226_87 (ph : Bool) (d : Nat) (L st : List zV) (M : zM) : zEv ph d 226 87 L st M = zcont ph d 226 (zstep ph (zEm ph d) 4 88 0 [0] L st M) := zEv_step rfl
theorem e226_88 (ph : Bool) (d : Nat) (L st : List zV) (M : zM) : zEv ph d 226 88 L st M = zcont ph d 226 (zstep ph (zEm ph d) 62 91 0 [30, 14, 2, 10, 368] L st M) := zEv_step rfl
theorem e226_91 (ph : Bool) (d : Nat) (L st : List zV) (M : zM) : zEv ph d 226 91 L st M = zcont ph d 226 (zstep ph (zEm ph d) 0 93 0 [111] L st M) := zEv_step rfl
theorem e226_93 (ph : Bool) (d : Nat) (L st : List zV) (M : zM) : zEv ph d 226 93 L st M = zcont ph d 226 (zstep ph (zEm ph d) 2 94 0 [3] L st M) := zEv_step rfl
theorem e226_94 (ph : Bool) (d : Nat) (L st : List zV) (M : zM) : zEv ph d 226 94 L st M = zcont ph d 226 (zstep ph (zEm ph d) 10 95 0 [] L st M) := zEv_step rfl
theorem e226_95 (ph : Bool) (d : Nat) (L st : List zV) (M : zM) : zEv ph d 226 95 L st M = zcont ph d 226 (zstep ph (zEm ph d) 85 96 0 [] L st M) := zEv_step rfl
theorem e226_96 (ph : Bool) (d : Nat) (L st : List zV) (M : zM) : zEv ph d 226 96 L st M = zcont ph d 226 (zstep ph (zEm ph d) 40 99 103 [] L st M) := zEv_step rfl
theorem e226_99 (ph : Bool) (d : Nat) (L st : List zV) (M : zM) : zEv ph d 226 99 L st M = zcont ph d 226 (zstep ph (zEm ph d) 0 100 0 [1] L st M) := zEv_step rfl
theorem e226_100 (ph : Bool) (d : Nat) (L st : List zV) (M : zM) : zEv ph d 226 100 L st M = zcont ph d 226 (zstep ph (zEm ph d) 52 103 119 [] L st M) := zEv_step rfl
theorem e226_103 (ph : Bool) (d : Nat) (L st : List zV) (M : zM) : zEv ph d 226 103 L st M = zcont ph d 226 (zstep ph (zEm ph d) 4 104 0 [0] L st M) := zEv_step rfl
theorem e226_104 (ph : Bool) (d : Nat) (L st : List zV) (M : zM) : zEv ph d 226 104 L st M = zcont ph d 226 (zstep ph (zEm ph d) 2 105 0 [2] L st M) := zEv_step rfl
theorem e226_105 (ph : Bool) (d : Nat) (L st : List zV) (M : zM) : zEv ph d 226 105 L st M = zcont ph d 226 (zstep ph (zEm ph d) 2 106 0 [3] L st M) := zEv_step rfl
theorem e226_106 (ph : Bool) (d : Nat) (L st : List zV) (M : zM) : zEv ph d 226 106 L st M = zcont ph d 226 (zstep ph (zEm ph d) 70 109 216 [3, 1, 30] L st M) := zEv_step rfl
theorem e226_109 (ph : Bool) (d : Nat) (L st : List zV) (M : zM) : zEv ph d 226 109 L st M = zcont ph d 226 (zstep ph (zEm ph d) 2 111 0 [4] L st M) := zEv_step rfl
theorem e226_111 (ph : Bool) (d : Nat) (L st : List zV) (M : zM) : zEv ph d 226 111 L st M = zcont ph d 226 (zstep ph (zEm ph d) 47 114 118 [] L st M) := zEv_step rfl
theorem e226_114 (ph : Bool) (d : Nat) (L st : List zV) (M : zM) : zEv ph d 226 114 L st M = zcont ph d 226 (zstep ph (zEm ph d) 0 115 0 [2] L st M) := zEv_step rfl
theorem e226_115 (ph : Bool) (d : Nat) (L st : List zV) (M : zM) : zEv ph d 226 115 L st M = zcont ph d 226 (zstep ph (zEm ph d) 52 118 119 [] L st M) := zEv_step rfl
theorem e226_118 (ph : Bool) (d : Nat) (L st : List zV) (M : zM) : zEv ph d 226 118 L st M = zcont ph d 226 (zstep ph (zEm ph d) 0 119 0 [0] L st M) := zEv_step rfl
theorem e226_119 (ph : Bool) (d : Nat) (L st : List zV) (M : zM) : zEv ph d 226 119 L st M = zcont ph d 226 (zstep ph (zEm ph d) 80 120 0 [] L st M) := zEv_step rfl
theorem e226_120 (ph : Bool) (d : Nat) (L st : List zV) (M : zM) : zEv ph d 226 120 L st M = zcont ph d 226 (zstep ph (zEm ph d) 4 121 0 [0] L st M) := zEv_step rfl
theorem e226_121 (ph : Bool) (d : Nat) (L st : List zV) (M : zM) : zEv ph d 226 121 L st M = zcont ph d 226 (zstep ph (zEm ph d) 2 122 0 [2] L st M) := zEv_step rfl
theorem e226_122 (ph : Bool) (d : Nat) (L st : List zV) (M : zM) : zEv ph d 226 122 L st M = zcont ph d 226 (zstep ph (zEm ph d) 70 125 225 [2, 1, 30] L st M) := zEv_step rfl
theorem e226_125 (ph : Bool) (d : Nat) (L st : List zV) (M : zM) : zEv ph d 226 125 L st M = zcont ph d 226 (zstep ph (zEm ph d) 80 126 0 [] L st M) := zEv_step rfl
theorem e226_126 (ph : Bool) (d : Nat) (L st : List zV) (M : zM) : zEv ph d 226 126 L st M = zcont ph d 226 (zstep ph (zEm ph d) 4 127 0 [0] L st M) := zEv_step rfl
theorem e226_127 (ph : Bool) (d : Nat) (L st : List zV) (M : zM) : zEv ph d 226 127 L st M = zcont ph d 226 (zstep ph (zEm ph d) 62 130 0 [30, 14, 2, 10, 368] L st M) := zEv_step rfl
theorem e226_130 (ph : Bool) (d : Nat) (L st : List zV) (M : zM) : zEv ph d 226 130 L st M = zcont ph d 226 (zstep ph (zEm ph d) 0 132 0 [79] L st M) := zEv_step rfl
theorem e226_132 (ph : Bool) (d : Nat) (L st : List zV) (M : zM) : zEv ph d 226 132 L st M = zcont ph d 226 (zstep ph (zEm ph d) 2 133 0 [2] L st M) := zEv_step rfl
theorem e226_133 (ph : Bool) (d : Nat) (L st : List zV) (M : zM) : zEv ph d 226 133 L st M = zcont ph d 226 (zstep ph (zEm ph d) 10 134 0 [] L st M) := zEv_step rfl
theorem e226_134 (ph : Bool) (d : Nat) (L st : List zV) (M : zM) : zEv ph d 226 134 L st M = zcont ph d 226 (zstep ph (zEm ph d) 85 135 0 [] L st M) := zEv_step rfl
theorem e226_135 (ph : Bool) (d : Nat) (L st : List zV) (M : zM) : zEv ph d 226 135 L st M = zcont ph d 226 (zstep ph (zEm ph d) 2 136 0 [3] L st M) := zEv_step rfl
theorem e226_136 (ph : Bool) (d : Nat) (L st : List zV) (M : zM) : zEv ph d 226 136 L st M = zcont ph d 226 (zstep ph (zEm ph d) 47 139 143 [] L st M) := zEv_step rfl
theorem e226_139 (ph : Bool) (d : Nat) (L st : List zV) (M : zM) : zEv ph d 226 139 L st M = zcont ph d 226 (zstep ph (zEm ph d) 0 140 0 [1] L st M) := zEv_step rfl
theorem e226_140 (ph : Bool) (d : Nat) (L st : List zV) (M : zM) : zEv ph d 226 140 L st M = zcont ph d 226 (zstep ph (zEm ph d) 52 143 144 [] L st M) := zEv_step rfl
theorem e226_143 (ph : Bool) (d : Nat) (L st : List zV) (M : zM) : zEv ph d 226 143 L st M = zcont ph d 226 (zstep ph (zEm ph d) 0 144 0 [0] L st M) := zEv_step rfl
theorem e226_144 (ph : Bool) (d : Nat) (L st : List zV) (M : zM) : zEv ph d 226 144 L st M = zcont ph d 226 (zstep ph (zEm ph d) 80 145 0 [] L st M) := zEv_step rfl
theorem e226_145 (ph : Bool) (d : Nat) (L st : List zV) (M : zM) : zEv ph d 226 145 L st M = zcont ph d 226 (zstep ph (zEm ph d) 4 146 0 [0] L st M) := zEv_step rfl
theorem e226_146 (ph : Bool) (d : Nat) (L st : List zV) (M : zM) : zEv ph d 226 146 L st M = zcont ph d 226 (zstep ph (zEm ph d) 62 149 0 [30, 14, 2, 10, 368] L st M) := zEv_step rfl
theorem e226_149 (ph : Bool) (d : Nat) (L st : List zV) (M : zM) : zEv ph d 226 149 L st M = zcont ph d 226 (zstep ph (zEm ph d) 0 151 0 [76] L st M) := zEv_step rfl
theorem e226_151 (ph : Bool) (d : Nat) (L st : List zV) (M : zM) : zEv ph d 226 151 L st M = zcont ph d 226 (zstep ph (zEm ph d) 85 152 0 [] L st M) := zEv_step rfl
theorem e226_152 (ph : Bool) (d : Nat) (L st : List zV) (M : zM) : zEv ph d 226 152 L st M = zcont ph d 226 (zstep ph (zEm ph d) 2 153 0 [2] L st M) := zEv_step rfl
theorem e226_153 (ph : Bool) (d : Nat) (L st : List zV) (M : zM) : zEv ph d 226 153 L st M = zcont ph d 226 (zstep ph (zEm ph d) 47 156 160 [] L st M) := zEv_step rfl
theorem e226_156 (ph : Bool) (d : Nat) (L st : List zV) (M : zM) : zEv ph d 226 156 L st M = zcont ph d 226 (zstep ph (zEm ph d) 0 157 0 [1] L st M) := zEv_step rfl
theorem e226_157 (ph : Bool) (d : Nat) (L st : List zV) (M : zM) : zEv ph d 226 157 L st M = zcont ph d 226 (zstep ph (zEm ph d) 52 160 161 [] L st M) := zEv_step rfl
theorem e226_160 (ph : Bool) (d : Nat) (L st : List zV) (M : zM) : zEv ph d 226 160 L st M = zcont ph d 226 (zstep ph (zEm ph d) 0 161 0 [0] L st M) := zEv_step rfl
theorem e226_161 (ph : Bool) (d : Nat) (L st : List zV) (M : zM) : zEv ph d 226 161 L st M = zcont ph d 226 (zstep ph (zEm ph d) 80 162 0 [] L st M) := zEv_step rfl
theorem m230 (ph : Bool) (d : Nat) (a x0 p0 y0 p1 y1 p2 y2 p3 y3 : Int) (M : zM) : zEm ph (d + 1) 230 [(30, a, x0), (0, p0, y0), (0, p1, y1), (0, p2, y2), (0, p3, y3)] M = zEv ph d 230 0 [(30, a, x0), (0, p0, y0), (0, p1, y1), (0, p2, y2), (0, p3, y3)] [] M := rfl
theorem e230_0 (ph : Bool) (d : Nat) (L st : List zV) (M : zM) : zEv ph d 230 0 L st M = zcont ph d 230 (zstep ph (zEm ph d) 2 1 0 [1] L st M) := zEv_step rfl
theorem e230_1 (ph : Bool) (d : Nat) (a y : Int) (L st : List zV) (M : zM) : zEv ph d 230 1 L ((0, a, y) :: st) M = dite (a = 0) (fun _ => zEv ph d 230 40 L st M) (fun _ => dite (a = 1) (fun _ => zEv ph d 230 74 L st M) (fun _ => dite (a = 2) (fun _ => zEv ph d 230 74 L st M) (fun _ => dite (a = 3) (fun _ => zEv ph d 230 88 L st M) (fun _ => dite (a = 4) (fun _ => zEv ph d 230 97 L st M) (fun _ => dite (a = 5) (fun _ => zEv ph d 230 103 L st M) (fun _ => zEv ph d 230 114 L st M)))))) := (zEv_step (op := 56) (nx := 40) (tg := 114) (r := [0, 40, 74, 74, 88, 97, 103]) rfl).trans (zts6 (fun q => zEv ph d 230 q L st M))
theorem e230_40 (ph : Bool) (d : Nat) (L st : List zV) (M : zM) : zEv ph d 230 40 L st M = zcont ph d 230 (zstep ph (zEm ph d) 4 41 0 [0] L st M) := zEv_step rfl
theorem e230_41 (ph : Bool) (d : Nat) (L st : List zV) (M : zM) : zEv ph d 230 41 L st M = zcont ph d 230 (zstep ph (zEm ph d) 62 44 0 [30, 14, 2, 10, 368] L st M) := zEv_step rfl
theorem e230_44 (ph : Bool) (d : Nat) (L st : List zV) (M : zM) : zEv ph d 230 44 L st M = zcont ph d 230 (zstep ph (zEm ph d) 0 46 0 [91] L st M) := zEv_step rfl
theorem e230_46 (ph : Bool) (d : Nat) (L st : List zV) (M : zM) : zEv ph d 230 46 L st M = zcont ph d 230 (zstep ph (zEm ph d) 2 47 0 [2] L st M) := zEv_step rfl
theorem e230_47 (ph : Bool) (d : Nat) (L st : List zV) (M : zM) : zEv ph d 230 47 L st M = zcont ph d 230 (zstep ph (zEm ph d) 10 48 0 [] L st M) := zEv_step rfl
theorem e230_48 (ph : Bool) (d : Nat) (L st : List zV) (M : zM) : zEv ph d 230 48 L st M = zcont ph d 230 (zstep ph (zEm ph d) 37 49 0 [] L st M) := zEv_step rfl
theorem e230_49 (ph : Bool) (d : Nat) (L st : List zV) (M : zM) : zEv ph d 230 49 L st M = zcont ph d 230 (zstep ph (zEm ph d) 85 50 0 [] L st M) := zEv_step rfl
theorem e230_50 (ph : Bool) (d : Nat) (L st : List zV) (M : zM) : zEv ph d 230 50 L st M = zcont ph d 230 (zstep ph (zEm ph d) 2 51 0 [3] L st M) := zEv_step rfl
theorem e230_51 (ph : Bool) (d : Nat) (L st : List zV) (M : zM) : zEv ph d 230 51 L st M = zcont ph d 230 (zstep ph (zEm ph d) 4 52 0 [0] L st M) := zEv_step rfl
theorem e230_52 (ph : Bool) (d : Nat) (L st : List zV) (M : zM) : zEv ph d 230 52 L st M = zcont ph d 230 (zstep ph (zEm ph d) 62 55 0 [30, 14, 2, 10, 368] L st M) := zEv_step rfl
theorem e230_55 (ph : Bool) (d : Nat) (L st : List zV) (M : zM) : zEv ph d 230 55 L st M = zcont ph d 230 (zstep ph (zEm ph d) 0 56 0 [3] L st M) := zEv_step rfl
theorem e230_56 (ph : Bool) (d : Nat) (L st : List zV) (M : zM) : zEv ph d 230 56 L st M = zcont ph d 230 (zstep ph (zEm ph d) 85 57 0 [] L st M) := zEv_step rfl
theorem e230_57 (ph : Bool) (d : Nat) (L st : List zV) (M : zM) : zEv ph d 230 57 L st M = zcont ph d 230 (zstep ph (zEm ph d) 12 58 0 [] L st M) := zEv_step rfl
theorem e230_58 (ph : Bool) (d : Nat) (L st : List zV) (M : zM) : zEv ph d 230 58 L st M = zcont ph d 230 (zstep ph (zEm ph d) 11 59 0 [] L st M) := zEv_step rfl
theorem e230_59 (ph : Bool) (d : Nat) (L st : List zV) (M : zM) : zEv ph d 230 59 L st M = zcont ph d 230 (zstep ph (zEm ph d) 89 60 0 [] L st M) := zEv_step rfl
theorem e230_60 (ph : Bool) (d : Nat) (L st : List zV) (M : zM) : zEv ph d 230 60 L st M = zcont ph d 230 (zstep ph (zEm ph d) 4 61 0 [0] L st M) := zEv_step rfl
theorem e230_61 (ph : Bool) (d : Nat) (L st : List zV) (M : zM) : zEv ph d 230 61 L st M = zcont ph d 230 (zstep ph (zEm ph d) 62 64 0 [30, 14, 2, 10, 368] L st M) := zEv_step rfl
theorem e230_64 (ph : Bool) (d : Nat) (L st : List zV) (M : zM) : zEv ph d 230 64 L st M = zcont ph d 230 (zstep ph (zEm ph d) 0 66 0 [81] L st M) := zEv_step rfl
theorem e230_66 (ph : Bool) (d : Nat) (L st : List zV) (M : zM) : zEv ph d 230 66 L st M = zcont ph d 230 (zstep ph (zEm ph d) 2 67 0 [2] L st M) := zEv_step rfl
theorem e230_67 (ph : Bool) (d : Nat) (L st : List zV) (M : zM) : zEv ph d 230 67 L st M = zcont ph d 230 (zstep ph (zEm ph d) 10 68 0 [] L st M) := zEv_step rfl
theorem e230_68 (ph : Bool) (d : Nat) (L st : List zV) (M : zM) : zEv ph d 230 68 L st M = zcont ph d 230 (zstep ph (zEm ph d) 37 69 0 [] L st M) := zEv_step rfl
theorem e230_69 (ph : Bool) (d : Nat) (L st : List zV) (M : zM) : zEv ph d 230 69 L st M = zcont ph d 230 (zstep ph (zEm ph d) 85 70 0 [] L st M) := zEv_step rfl
theorem e230_70 (ph : Bool) (d : Nat) (L st : List zV) (M : zM) : zEv ph d 230 70 L st M = zcont ph d 230 (zstep ph (zEm ph d) 2 71 0 [3] L st M) := zEv_step rfl
theorem e230_71 (ph : Bool) (d : Nat) (L st : List zV) (M : zM) : zEv ph d 230 71 L st M = zcont ph d 230 (zstep ph (zEm ph d) 10 72 0 [] L st M) := zEv_step rfl
theorem e230_72 (ph : Bool) (d : Nat) (L st : List zV) (M : zM) : zEv ph d 230 72 L st M = zcont ph d 230 (zstep ph (zEm ph d) 89 73 0 [] L st M) := zEv_step rfl
theorem e230_73 (ph : Bool) (d : Nat) (L st : List zV) (M : zM) : zEv ph d 230 73 L st M = zcont ph d 230 (zstep ph (zEm ph d) 83 74 0 [] L st M) := zEv_step rfl
theorem e230_74 (ph : Bool) (d : Nat) (L st : List zV) (M : zM) : zEv ph d 230 74 L st M = zcont ph d 230 (zstep ph (zEm ph d) 4 75 0 [0] L st M) := zEv_step rfl
theorem e230_75 (ph : Bool) (d : Nat) (L st : List zV) (M : zM) : zEv ph d 230 75 L st M = zcont ph d 230 (zstep ph (zEm ph d) 62 78 0 [30, 14, 2, 10, 368] L st M) := zEv_step rfl
theorem e230_78 (ph : Bool) (d : Nat) (L st : List zV) (M : zM) : zEv ph d 230 78 L st M = zcont ph d 230 (zstep ph (zEm ph d) 0 80 0 [77] L st M) := zEv_step rfl
theorem e230_80 (ph : Bool) (d : Nat) (L st : List zV) (M : zM) : zEv ph d 230 80 L st M = zcont ph d 230 (zstep ph (zEm ph d) 37 81 0 [] L st M) := zEv_step rfl
theorem e230_81 (ph : Bool) (d : Nat) (L st : List zV) (M : zM) : zEv ph d 230 81 L st M = zcont ph d 230 (zstep ph (zEm ph d) 85 82 0 [] L st M) := zEv_step rfl
theorem e230_82 (ph : Bool) (d : Nat) (L st : List zV) (M : zM) : zEv ph d 230 82 L st M = zcont ph d 230 (zstep ph (zEm ph d) 0 83 0 [1] L st M) := zEv_step rfl
theorem e230_83 (ph : Bool) (d : Nat) (L st : List zV) (M : zM) : zEv ph d 230 83 L st M = zcont ph d 230 (zstep ph (zEm ph d) 2 84 0 [2] L st M) := zEv_step rfl
theorem e230_84 (ph : Bool) (d : Nat) (L st : List zV) (M : zM) : zEv ph d 230 84 L st M = zcont ph d 230 (zstep ph (zEm ph d) 19 85 0 [] L st M) := zEv_step rfl
theorem e230_85 (ph : Bool) (d : Nat) (L st : List zV) (M : zM) : zEv ph d 230 85 L st M = zcont ph d 230 (zstep ph (zEm ph d) 18 86 0 [] L st M) := zEv_step rfl
theorem e230_86 (ph : Bool) (d : Nat) (L st : List zV) (M : zM) : zEv ph d 230 86 L st M = zcont ph d 230 (zstep ph (zEm ph d) 89 87 0 [] L st M) := zEv_step rfl
theorem e230_87 (ph : Bool) (d : Nat) (L st : List zV) (M : zM) : zEv ph d 230 87 L st M = zcont ph d 230 (zstep ph (zEm ph d) 83 88 0 [] L st M) := zEv_step rfl
theorem e230_88 (ph : Bool) (d : Nat) (L st : List zV) (M : zM) : zEv ph d 230 88 L st M = zcont ph d 230 (zstep ph (zEm ph d) 4 89 0 [0] L st M) := zEv_step rfl
theorem e230_89 (ph : Bool) (d : Nat) (L st : List zV) (M : zM) : zEv ph d 230 89 L st M = zcont ph d 230 (zstep ph (zEm ph d) 2 90 0 [2] L st M) := zEv_step rfl
theorem e230_90 (ph : Bool) (d : Nat) (L st : List zV) (M : zM) : zEv ph d 230 90 L st M = zcont ph d 230 (zstep ph (zEm ph d) 2 91 0 [3] L st M) := zEv_step rfl
theorem e230_91 (ph : Bool) (d : Nat) (L st : List zV) (M : zM) : zEv ph d 230 91 L st M = zcont ph d 230 (zstep ph (zEm ph d) 2 93 0 [4] L st M) := zEv_step rfl
theorem e230_93 (ph : Bool) (d : Nat) (L st : List zV) (M : zM) : zEv ph d 230 93 L st M = zcont ph d 230 (zstep ph (zEm ph d) 70 96 229 [4, 0, 30] L st M) := zEv_step rfl
theorem e230_96 (ph : Bool) (d : Nat) (L st : List zV) (M : zM) : zEv ph d 230 96 L st M = zcont ph d 230 (zstep ph (zEm ph d) 83 97 0 [] L st M) := zEv_step rfl
theorem e230_97 (ph : Bool) (d : Nat) (L st : List zV) (M : zM) : zEv ph d 230 97 L st M = zcont ph d 230 (zstep ph (zEm ph d) 4 98 0 [0] L st M) := zEv_step rfl
theorem e230_98 (ph : Bool) (d : Nat) (L st : List zV) (M : zM) : zEv ph d 230 98 L st M = zcont ph d 230 (zstep ph (zEm ph d) 2 99 0 [2] L st M) := zEv_step rfl
theorem e230_99 (ph : Bool) (d : Nat) (L st : List zV) (M : zM) : zEv ph d 230 99 L st M = zcont ph d 230 (zstep ph (zEm ph d) 70 102 228 [2, 0, 30] L st M) := zEv_step rfl
theorem e230_102 (ph : Bool) (d : Nat) (L st : List zV) (M : zM) : zEv ph d 230 102 L st M = zcont ph d 230 (zstep ph (zEm ph d) 83 103 0 [] L st M) := zEv_step rfl
theorem e230_103 (ph : Bool) (d : Nat) (L st : List zV) (M : zM) : zEv ph d 230 103 L st M = zcont ph d 230 (zstep ph (zEm ph d) 4 104 0 [0] L st M) := zEv_step rfl
theorem e230_104 (ph : Bool) (d : Nat) (L st : List zV) (M : zM) : zEv ph d 230 104 L st M = zcont ph d 230 (zstep ph (zEm ph d) 62 107 0 [30, 14, 2, 10, 368] L st M) := zEv_step rfl
theorem e230_107 (ph : Bool) (d : Nat) (L st : List zV) (M : zM) : zEv ph d 230 107 L st M = zcont ph d 230 (zstep ph (zEm ph d) 0 109 0 [79] L st M) := zEv_step rfl
theorem e230_109 (ph : Bool) (d : Nat) (L st : List zV) (M : zM) : zEv ph d 230 109 L st M = zcont ph d 230 (zstep ph (zEm ph d) 2 110 0 [2] L st M) := zEv_step rfl
theorem e230_110 (ph : Bool) (d : Nat) (L st : List zV) (M : zM) : zEv ph d 230 110 L st M = zcont ph d 230 (zstep ph (zEm ph d) 10 111 0 [] L st M) := zEv_step rfl
theorem e230_111 (ph : Bool) (d : Nat) (L st : List zV) (M : zM) : zEv ph d 230 111 L st M = zcont ph d 230 (zstep ph (zEm ph d) 2 112 0 [3] L st M) := zEv_step rfl
theorem e230_112 (ph : Bool) (d : Nat) (L st : List zV) (M : zM) : zEv ph d 230 112 L st M = zcont ph d 230 (zstep ph (zEm ph d) 89 113 0 [] L st M) := zEv_step rfl
theorem e230_113 (ph : Bool) (d : Nat) (L st : List zV) (M : zM) : zEv ph d 230 113 L st M = zcont ph d 230 (zstep ph (zEm ph d) 83 114 0 [] L st M) := zEv_step rfl
theorem e230_114 (ph : Bool) (d : Nat) (L st : List zV) (M : zM) : zEv ph d 230 114 L st M = zcont ph d 230 (zstep ph (zEm ph d) 4 115 0 [0] L st M) := zEv_step rfl
theorem e230_115 (ph : Bool) (d : Nat) (L st : List zV) (M : zM) : zEv ph d 230 115 L st M = zcont ph d 230 (zstep ph (zEm ph d) 62 118 0 [30, 14, 2, 10, 368] L st M) := zEv_step rfl
theorem e230_118 (ph : Bool) (d : Nat) (L st : List zV) (M : zM) : zEv ph d 230 118 L st M = zcont ph d 230 (zstep ph (zEm ph d) 0 120 0 [76] L st M) := zEv_step rfl
theorem e230_120 (ph : Bool) (d : Nat) (L st : List zV) (M : zM) : zEv ph d 230 120 L st M = zcont ph d 230 (zstep ph (zEm ph d) 2 121 0 [2] L st M) := zEv_step rfl
theorem e230_121 (ph : Bool) (d : Nat) (L st : List zV) (M : zM) : zEv ph d 230 121 L st M = zcont ph d 230 (zstep ph (zEm ph d) 89 122 0 [] L st M) := zEv_step rfl
theorem e230_122 (ph : Bool) (d : Nat) (L st : List zV) (M : zM) : zEv ph d 230 122 L st M = zcont ph d 230 (zstep ph (zEm ph d) 83 123 0 [] L st M) := zEv_step rfl
theorem m231 (ph : Bool) (d : Nat) (a x0 p0 y0 p1 y1 p2 y2 p3 y3 : Int) (M : zM) : zEm ph (d + 1) 231 [(30, a, x0), (0, p0, y0), (0, p1, y1), (0, p2, y2), (0, p3, y3)] M = zEv ph d 231 0 [(30, a, x0), (0, p0, y0), (0, p1, y1), (0, p2, y2), (0, p3, y3), (3, 0, 0)] [] M := rfl
theorem e231_0 (ph : Bool) (d : Nat) (L st : List zV) (M : zM) : zEv ph d 231 0 L st M = zcont ph d 231 (zstep ph (zEm ph d) 4 1 0 [0] L st M) := zEv_step rfl
theorem e231_1 (ph : Bool) (d : Nat) (L st : List zV) (M : zM) : zEv ph d 231 1 L st M = zcont ph d 231 (zstep ph (zEm ph d) 2 2 0 [1] L st M) := zEv_step rfl
theorem e231_2 (ph : Bool) (d : Nat) (L st : List zV) (M : zM) : zEv ph d 231 2 L st M = zcont ph d 231 (zstep ph (zEm ph d) 2 3 0 [2] L st M) := zEv_step rfl
theorem e231_3 (ph : Bool) (d : Nat) (L st : List zV) (M : zM) : zEv ph d 231 3 L st M = zcont ph d 231 (zstep ph (zEm ph d) 2 4 0 [3] L st M) := zEv_step rfl
theorem e231_4 (ph : Bool) (d : Nat) (L st : List zV) (M : zM) : zEv ph d 231 4 L st M = zcont ph d 231 (zstep ph (zEm ph d) 2 6 0 [4] L st M) := zEv_step rfl
theorem e231_6 (ph : Bool) (d : Nat) (L st : List zV) (M : zM) : zEv ph d 231 6 L st M = zcont ph d 231 (zstep ph (zEm ph d) 70 9 226 [5, 1, 30] L st M) := zEv_step rfl
theorem e231_9 (ph : Bool) (d : Nat) (L st : List zV) (M : zM) : zEv ph d 231 9 L st M = zcont ph d 231 (zstep ph (zEm ph d) 5 11 0 [5] L st M) := zEv_step rfl
theorem e231_11 (ph : Bool) (d : Nat) (L st : List zV) (M : zM) : zEv ph d 231 11 L st M = zcont ph d 231 (zstep ph (zEm ph d) 2 13 0 [5] L st M) := zEv_step rfl
theorem e231_13 (ph : Bool) (d : Nat) (L st : List zV) (M : zM) : zEv ph d 231 13 L st M = zcont ph d 231 (zstep ph (zEm ph d) 40 16 19 [] L st M) := zEv_step rfl
theorem e231_16 (ph : Bool) (d : Nat) (L st : List zV) (M : zM) : zEv ph d 231 16 L st M = zcont ph d 231 (zstep ph (zEm ph d) 2 18 0 [5] L st M) := zEv_step rfl
theorem e231_18 (ph : Bool) (d : Nat) (L st : List zV) (M : zM) : zEv ph d 231 18 L st M = zcont ph d 231 (zstep ph (zEm ph d) 80 19 0 [] L st M) := zEv_step rfl
theorem e231_19 (ph : Bool) (d : Nat) (L st : List zV) (M : zM) : zEv ph d 231 19 L st M = zcont ph d 231 (zstep ph (zEm ph d) 4 20 0 [0] L st M) := zEv_step rfl
theorem e231_20 (ph : Bool) (d : Nat) (L st : List zV) (M : zM) : zEv ph d 231 20 L st M = zcont ph d 231 (zstep ph (zEm ph d) 70 23 223 [1, 0, 30] L st M) := zEv_step rfl
theorem e231_23 (ph : Bool) (d : Nat) (L st : List zV) (M : zM) : zEv ph d 231 23 L st M = zcont ph d 231 (zstep ph (zEm ph d) 4 24 0 [0] L st M) := zEv_step rfl
theorem e231_24 (ph : Bool) (d : Nat) (L st : List zV) (M : zM) : zEv ph d 231 24 L st M = zcont ph d 231 (zstep ph (zEm ph d) 2 25 0 [1] L st M) := zEv_step rfl
theorem e231_25 (ph : Bool) (d : Nat) (L st : List zV) (M : zM) : zEv ph d 231 25 L st M = zcont ph d 231 (zstep ph (zEm ph d) 2 26 0 [2] L st M) := zEv_step rfl
theorem e231_26 (ph : Bool) (d : Nat) (L st : List zV) (M : zM) : zEv ph d 231 26 L st M = zcont ph d 231 (zstep ph (zEm ph d) 2 27 0 [3] L st M) := zEv_step rfl
theorem e231_27 (ph : Bool) (d : Nat) (L st : List zV) (M : zM) : zEv ph d 231 27 L st M = zcont ph d 231 (zstep ph (zEm ph d) 2 29 0 [4] L st M) := zEv_step rfl
theorem e231_29 (ph : Bool) (d : Nat) (L st : List zV) (M : zM) : zEv ph d 231 29 L st M = zcont ph d 231 (zstep ph (zEm ph d) 70 32 230 [5, 0, 30] L st M) := zEv_step rfl
theorem e231_32 (ph : Bool) (d : Nat) (L st : List zV) (M : zM) : zEv ph d 231 32 L st M = zcont ph d 231 (zstep ph (zEm ph d) 0 33 0 [0] L st M) := zEv_step rfl
theorem e231_33 (ph : Bool) (d : Nat) (L st : List zV) (M : zM) : zEv ph d 231 33 L st M = zcont ph d 231 (zstep ph (zEm ph d) 80 34 0 [] L st M) := zEv_step rfl
theorem r_grant (d : Nat) (x0 q y : Int) (M : zM) (hG : okG (zrG M)) (q0 : 0 ≤ q) (q1 : q < 5) : zEm true (d + 2) 227 [(30, 197, x0), (0, q, y)] M = some ((98, 0, 0), zpR M (tGrant (zrS M) (zrG M) q)) := by
  obtain ⟨⟨g6, g6'⟩, ⟨g1, g2⟩, -, -, -, -, gh⟩ := okR_M hG
  have hl := zfor (ph := true) (d := d + 1) (j := 227) (pc := 2) (fun h T => zup T 1 h (sMin 20 (z32 (T 1 h + zrG M 5 (q * 5 + zrG M 4 h))))) (fun h _ => 0 ≤ h) (fun h _ => [(30, 197, x0), (0, q, y), (0, h, 0)]) (fun T => zpR M T) (M 199 1)
    (fun k b hk hp => ⟨by
      obtain ⟨h1, h2⟩ := gh k hp hk
      rw [e227_2, zrG_4 hp (by omega) hk, zrG_5 (by omega) (by omega)]
      have hx : 50 + 5 * q + M 199 (9 + k) = 50 + (q * 5 + M 199 (9 + k)) := by omega
      simp (disch := first | assumption | exact zrm0 | exact zrm1 _ | exact zrm2 _ _ | exact zrm3 _ _ _ | exact zrm4 _ _ _ _ | omega) only [m227, ↓k_dp, ↓k_dn, k_dp, k_dn, k_dT, k_dF, k_ip, k_in, if_true, if_false, ne_eq, not_true_eq_false, not_false_eq_true, Int.reduceAdd, zup_a, zup_e, zup_j, z32_id, k_ic, k_is2, k_il2, k_al0, k_gR, k_ild, k_ildS, k_ildW, k_icge, k_iadd, k_il1, k_imul, k_s2r, k_ist, k_inc2, k_goto, k_rv, zb0_some, zb1_some, e227_0, e227_1, e227_3, e227_4, e227_7, e227_8, e227_9, e227_12, e227_13, e227_16, e227_18, e227_19, e227_20, e227_22, e227_23, e227_26, e227_28, e227_29, e227_30, e227_31, e227_32, e227_35, e227_37, e227_38, e227_39, e227_40, e227_41, e227_42, e227_45, e227_47, e227_48, e227_49, e227_50, e227_51, e227_52, e227_53, e227_56, e227_57, e227_60, e227_63, r_least, zpR_o, zpR_1, zpR_u1, hx], by omega⟩) (M 199 1).toNat 0 (zrS M) (by omega) (Int.le_refl _)
  have h2 := hl.1
  rw [zpR_self] at h2
  simp (disch := first | assumption | exact zrm0 | exact zrm1 _ | exact zrm2 _ _ | exact zrm3 _ _ _ | exact zrm4 _ _ _ _ | omega) only [m227, ↓k_dp, ↓k_dn, k_dp, k_dn, k_dT, k_dF, k_ip, k_in, if_true, if_false, ne_eq, not_true_eq_false, not_false_eq_true, Int.reduceAdd, zup_a, zup_e, zup_j, z32_id, k_ic, k_is2, k_il2, k_al0, k_gR, k_ild, k_ildS, k_ildW, k_icge, k_iadd, k_il1, k_imul, k_s2r, k_ist, k_inc2, k_goto, k_rv, zb0_some, zb1_some, e227_0, e227_1, e227_3, e227_4, e227_7, e227_8, e227_9, e227_12, e227_13, e227_16, e227_18, e227_19, e227_20, e227_22, e227_23, e227_26, e227_28, e227_29, e227_30, e227_31, e227_32, e227_35, e227_37, e227_38, e227_39, e227_40, e227_41, e227_42, e227_45, e227_47, e227_48, e227_49, e227_50, e227_51, e227_52, e227_53, e227_56, e227_57, e227_60, e227_63]
  rw [h2]
  unfold tGrant
  rw [zrG_07]
  simp (disch := first | assumption | exact zrm0 | exact zrm1 _ | exact zrm2 _ _ | exact zrm3 _ _ _ | exact zrm4 _ _ _ _ | omega) only [m227, ↓k_dp, ↓k_dn, k_dp, k_dn, k_dT, k_dF, k_ip, k_in, if_true, if_false, ne_eq, not_true_eq_false, not_false_eq_true, Int.reduceAdd, zup_a, zup_e, zup_j, z32_id, k_ic, k_is2, k_il2, k_al0, k_gR, k_ild, k_ildS, k_ildW, k_icge, k_iadd, k_il1, k_imul, k_s2r, k_ist, k_inc2, k_goto, k_rv, zb0_some, zb1_some, e227_0, e227_1, e227_2, e227_3, e227_4, e227_7, e227_8, e227_9, e227_12, e227_13, e227_16, e227_18, e227_19, e227_20, e227_22, e227_23, e227_26, e227_28, e227_29, e227_30, e227_31, e227_32, e227_35, e227_37, e227_38, e227_39, e227_40, e227_41, e227_42, e227_45, e227_47, e227_48, e227_49, e227_50, e227_51, e227_52, e227_53, e227_56, e227_57, e227_60, e227_63, zpR_o]
theorem r_whyBuy (d : Nat) (x0 h y n y2 : Int) (M : zM) (h0 : 0 ≤ h) (h1 : h < 10) : zEm true (d + 1) 224 [(30, 197, x0), (0, h, y), (0, n, y2)] M = some ((0, sWhyBuy (zrS M) (zrG M) h n, 0), M) := by
  unfold sWhyBuy
  rw [zrS_2 h0 h1, zrS_1 h0 h1, zrG_0t]
  by_cases c1 : M 199 (91 + h) < z32 (n * M 199 3)
  · simp (disch := first | assumption | exact zrm0 | exact zrm1 _ | exact zrm2 _ _ | exact zrm3 _ _ _ | exact zrm4 _ _ _ _ | omega) only [m224, ↓k_dp, ↓k_dn, k_dp, k_dn, k_dT, k_dF, k_ip, k_in, if_true, if_false, ne_eq, not_true_eq_false, not_false_eq_true, Int.reduceAdd, zup_a, zup_e, zup_j, z32_id, k_al0, k_gR, k_ic, k_il1, k_iadd, k_ild, k_ildS, k_ildW, k_il2, k_imul, k_icge, k_goto, k_icle, k_ri, e224_0, e224_1, e224_4, e224_6, e224_7, e224_8, e224_9, e224_10, e224_11, e224_14, e224_15, e224_16, e224_17, e224_20, e224_21, e224_24, e224_25, e224_28, e224_30, e224_31, e224_32, e224_33, e224_34, e224_35, e224_37, e224_40, e224_41, e224_44, e224_45, if_pos c1]
  · by_cases c2 : 20 < z32 (M 199 (81 + h) + n)
    · simp (disch := first | assumption | exact zrm0 | exact zrm1 _ | exact zrm2 _ _ | exact zrm3 _ _ _ | exact zrm4 _ _ _ _ | omega) only [m224, ↓k_dp, ↓k_dn, k_dp, k_dn, k_dT, k_dF, k_ip, k_in, if_true, if_false, ne_eq, not_true_eq_false, not_false_eq_true, Int.reduceAdd, zup_a, zup_e, zup_j, z32_id, k_al0, k_gR, k_ic, k_il1, k_iadd, k_ild, k_ildS, k_ildW, k_il2, k_imul, k_icge, k_goto, k_icle, k_ri, e224_0, e224_1, e224_4, e224_6, e224_7, e224_8, e224_9, e224_10, e224_11, e224_14, e224_15, e224_16, e224_17, e224_20, e224_21, e224_24, e224_25, e224_28, e224_30, e224_31, e224_32, e224_33, e224_34, e224_35, e224_37, e224_40, e224_41, e224_44, e224_45, if_neg c1, if_pos c2]
    · simp (disch := first | assumption | exact zrm0 | exact zrm1 _ | exact zrm2 _ _ | exact zrm3 _ _ _ | exact zrm4 _ _ _ _ | omega) only [m224, ↓k_dp, ↓k_dn, k_dp, k_dn, k_dT, k_dF, k_ip, k_in, if_true, if_false, ne_eq, not_true_eq_false, not_false_eq_true, Int.reduceAdd, zup_a, zup_e, zup_j, z32_id, k_al0, k_gR, k_ic, k_il1, k_iadd, k_ild, k_ildS, k_ildW, k_il2, k_imul, k_icge, k_goto, k_icle, k_ri, e224_0, e224_1, e224_4, e224_6, e224_7, e224_8, e224_9, e224_10, e224_11, e224_14, e224_15, e224_16, e224_17, e224_20, e224_21, e224_24, e224_25, e224_28, e224_30, e224_31, e224_32, e224_33, e224_34, e224_35, e224_37, e224_40, e224_41, e224_44, e224_45, if_neg c1, if_neg c2]
theorem r_whyPut (d : Nat) (x0 q y : Int) (M : zM) (hp : M 199 78 = if sPut (zrS M) (zrG M) = true then 1 else 0) (q0 : 0 ≤ q) (q1 : q < 5) : zEm true (d + 1) 225 [(30, 197, x0), (0, q, y)] M = some ((0, sWhyPut (zrS M) (zrG M) q, 0), M) := by
  unfold sWhyPut
  rw [zrS_5 q0 q1, zrS_09]
  by_cases c1 : M 199 (111 + q) = 0
  · by_cases c2 : M 199 76 = 2
    · simp (disch := first | assumption | exact zrm0 | exact zrm1 _ | exact zrm2 _ _ | exact zrm3 _ _ _ | exact zrm4 _ _ _ _ | omega) only [m225, ↓k_dp, ↓k_dn, k_dp, k_dn, k_dT, k_dF, k_ip, k_in, if_true, if_false, ne_eq, not_true_eq_false, not_false_eq_true, Int.reduceAdd, zup_a, zup_e, zup_j, z32_id, k_al0, k_gR, k_ic, k_il1, k_iadd, k_ild, k_ildS, k_ildW, k_ifeq, k_goto, k_icne, k_ri, e225_0, e225_1, e225_4, e225_6, e225_7, e225_8, e225_9, e225_12, e225_13, e225_16, e225_17, e225_20, e225_22, e225_23, e225_24, e225_27, e225_28, e225_31, e225_32, e225_35, e225_37, e225_38, e225_39, e225_42, e225_43, e225_46, e225_47, c1, c2]
    · by_cases c3 : sPut (zrS M) (zrG M) = true
      · rw [if_pos c3] at hp
        simp (disch := first | assumption | exact zrm0 | exact zrm1 _ | exact zrm2 _ _ | exact zrm3 _ _ _ | exact zrm4 _ _ _ _ | omega) only [m225, ↓k_dp, ↓k_dn, k_dp, k_dn, k_dT, k_dF, k_ip, k_in, if_true, if_false, ne_eq, not_true_eq_false, not_false_eq_true, Int.reduceAdd, zup_a, zup_e, zup_j, z32_id, k_al0, k_gR, k_ic, k_il1, k_iadd, k_ild, k_ildS, k_ildW, k_ifeq, k_goto, k_icne, k_ri, e225_0, e225_1, e225_4, e225_6, e225_7, e225_8, e225_9, e225_12, e225_13, e225_16, e225_17, e225_20, e225_22, e225_23, e225_24, e225_27, e225_28, e225_31, e225_32, e225_35, e225_37, e225_38, e225_39, e225_42, e225_43, e225_46, e225_47, c1, c2, c3, hp]
      · rw [if_neg c3] at hp
        simp (disch := first | assumption | exact zrm0 | exact zrm1 _ | exact zrm2 _ _ | exact zrm3 _ _ _ | exact zrm4 _ _ _ _ | omega) only [m225, ↓k_dp, ↓k_dn, k_dp, k_dn, k_dT, k_dF, k_ip, k_in, if_true, if_false, ne_eq, not_true_eq_false, not_false_eq_true, Int.reduceAdd, zup_a, zup_e, zup_j, z32_id, k_al0, k_gR, k_ic, k_il1, k_iadd, k_ild, k_ildS, k_ildW, k_ifeq, k_goto, k_icne, k_ri, e225_0, e225_1, e225_4, e225_6, e225_7, e225_8, e225_9, e225_12, e225_13, e225_16, e225_17, e225_20, e225_22, e225_23, e225_24, e225_27, e225_28, e225_31, e225_32, e225_35, e225_37, e225_38, e225_39, e225_42, e225_43, e225_46, e225_47, c1, c2, c3, hp, Bool.false_eq_true]
  · simp (disch := first | assumption | exact zrm0 | exact zrm1 _ | exact zrm2 _ _ | exact zrm3 _ _ _ | exact zrm4 _ _ _ _ | omega) only [m225, ↓k_dp, ↓k_dn, k_dp, k_dn, k_dT, k_dF, k_ip, k_in, if_true, if_false, ne_eq, not_true_eq_false, not_false_eq_true, Int.reduceAdd, zup_a, zup_e, zup_j, z32_id, k_al0, k_gR, k_ic, k_il1, k_iadd, k_ild, k_ildS, k_ildW, k_ifeq, k_goto, k_icne, k_ri, e225_0, e225_1, e225_4, e225_6, e225_7, e225_8, e225_9, e225_12, e225_13, e225_16, e225_17, e225_20, e225_22, e225_23, e225_24, e225_27, e225_28, e225_31, e225_32, e225_35, e225_37, e225_38, e225_39, e225_42, e225_43, e225_46, e225_47, c1]
theorem r_oneDay (d : Nat) (x0 : Int) (M : zM) (hG : okG (zrG M)) : zEm true (d + 2) 240 [(30, 197, x0)] M = some ((98, 0, 0), zpR (zup M 199 78 0) (tDay2 (zrS M) (zrG M))) := by
  obtain ⟨⟨g6, g6'⟩, ⟨g1, g2⟩, -, -, -, -, gh⟩ := okR_M hG
  have hl := zfor (ph := true) (d := d + 1) (j := 240) (pc := 2) (fun h T => if zbit (T 0 8) h ≠ 0 then T else zup T 2 h (sMin 999 (z32 (T 2 h + zrG M 0 11)))) (fun h _ => 0 ≤ h) (fun h _ => [(30, 197, x0), (0, h, 0)]) (fun T => zpR M T) (M 199 1)
    (fun k b hk hp => ⟨by
      rw [e240_2, zrG_0e]
      by_cases c1 : zbit (b 0 8) k = 0
      · simp (disch := first | assumption | exact zrm0 | exact zrm1 _ | exact zrm2 _ _ | exact zrm3 _ _ _ | exact zrm4 _ _ _ _ | omega) only [m240, ↓k_dp, ↓k_dn, k_dp, k_dn, k_dT, k_dF, k_ip, k_in, if_true, if_false, ne_eq, not_true_eq_false, not_false_eq_true, Int.reduceAdd, zup_a, zup_e, zup_j, z32_id, k_ic, k_is1, k_il1, k_al0, k_gR, k_ild, k_ildS, k_ildW, k_icge, k_s2r, k_ifne, k_iadd, k_ist, k_inc1, k_goto, k_dup2, k_rv, zb0_some, zb1_some, e240_0, e240_1, e240_3, e240_4, e240_7, e240_8, e240_9, e240_12, e240_13, e240_16, e240_18, e240_19, e240_20, e240_23, e240_26, e240_27, e240_30, e240_32, e240_33, e240_34, e240_37, e240_38, e240_41, e240_43, e240_44, e240_45, e240_46, e240_47, e240_50, e240_51, e240_52, e240_53, e240_56, e240_57, e240_60, e240_63, e240_64, e240_67, e240_69, e240_70, e240_71, e240_72, e240_75, e240_77, e240_78, e240_79, e240_80, e240_83, e240_85, e240_86, e240_87, e240_88, e240_89, e240_90, r_has, r_least, zpR_o, zpR_08, zpR_2, zpR_u2, c1]
      · simp (disch := first | assumption | exact zrm0 | exact zrm1 _ | exact zrm2 _ _ | exact zrm3 _ _ _ | exact zrm4 _ _ _ _ | omega) only [m240, ↓k_dp, ↓k_dn, k_dp, k_dn, k_dT, k_dF, k_ip, k_in, if_true, if_false, ne_eq, not_true_eq_false, not_false_eq_true, Int.reduceAdd, zup_a, zup_e, zup_j, z32_id, k_ic, k_is1, k_il1, k_al0, k_gR, k_ild, k_ildS, k_ildW, k_icge, k_s2r, k_ifne, k_iadd, k_ist, k_inc1, k_goto, k_dup2, k_rv, zb0_some, zb1_some, e240_0, e240_1, e240_3, e240_4, e240_7, e240_8, e240_9, e240_12, e240_13, e240_16, e240_18, e240_19, e240_20, e240_23, e240_26, e240_27, e240_30, e240_32, e240_33, e240_34, e240_37, e240_38, e240_41, e240_43, e240_44, e240_45, e240_46, e240_47, e240_50, e240_51, e240_52, e240_53, e240_56, e240_57, e240_60, e240_63, e240_64, e240_67, e240_69, e240_70, e240_71, e240_72, e240_75, e240_77, e240_78, e240_79, e240_80, e240_83, e240_85, e240_86, e240_87, e240_88, e240_89, e240_90, r_has, zpR_o, zpR_08, c1], by omega⟩) (M 199 1).toNat 0 (zrS M) (by omega) (Int.le_refl _)
  have h2 := hl.1
  rw [zpR_self] at h2
  simp (disch := first | assumption | exact zrm0 | exact zrm1 _ | exact zrm2 _ _ | exact zrm3 _ _ _ | exact zrm4 _ _ _ _ | omega) only [m240, ↓k_dp, ↓k_dn, k_dp, k_dn, k_dT, k_dF, k_ip, k_in, if_true, if_false, ne_eq, not_true_eq_false, not_false_eq_true, Int.reduceAdd, zup_a, zup_e, zup_j, z32_id, k_ic, k_is1, k_il1, k_al0, k_gR, k_ild, k_ildS, k_ildW, k_icge, k_s2r, k_ifne, k_iadd, k_ist, k_inc1, k_goto, k_dup2, k_rv, zb0_some, zb1_some, e240_0, e240_1, e240_3, e240_4, e240_7, e240_8, e240_9, e240_12, e240_13, e240_16, e240_18, e240_19, e240_20, e240_23, e240_26, e240_27, e240_30, e240_32, e240_33, e240_34, e240_37, e240_38, e240_41, e240_43, e240_44, e240_45, e240_46, e240_47, e240_50, e240_51, e240_52, e240_53, e240_56, e240_57, e240_60, e240_63, e240_64, e240_67, e240_69, e240_70, e240_71, e240_72, e240_75, e240_77, e240_78, e240_79, e240_80, e240_83, e240_85, e240_86, e240_87, e240_88, e240_89, e240_90]
  rw [h2]
  unfold tDay2 tPay
  rw [zrG_07]
  simp (disch := first | assumption | exact zrm0 | exact zrm1 _ | exact zrm2 _ _ | exact zrm3 _ _ _ | exact zrm4 _ _ _ _ | omega) only [m240, ↓k_dp, ↓k_dn, k_dp, k_dn, k_dT, k_dF, k_ip, k_in, if_true, if_false, ne_eq, not_true_eq_false, not_false_eq_true, Int.reduceAdd, zup_a, zup_e, zup_j, z32_id, k_ic, k_is1, k_il1, k_al0, k_gR, k_ild, k_ildS, k_ildW, k_icge, k_s2r, k_ifne, k_iadd, k_ist, k_inc1, k_goto, k_dup2, k_rv, zb0_some, zb1_some, e240_0, e240_1, e240_2, e240_3, e240_4, e240_7, e240_8, e240_9, e240_12, e240_13, e240_16, e240_18, e240_19, e240_20, e240_23, e240_26, e240_27, e240_30, e240_32, e240_33, e240_34, e240_37, e240_38, e240_41, e240_43, e240_44, e240_45, e240_46, e240_47, e240_50, e240_51, e240_52, e240_53, e240_56, e240_57, e240_60, e240_63, e240_64, e240_67, e240_69, e240_70, e240_71, e240_72, e240_75, e240_77, e240_78, e240_79, e240_80, e240_83, e240_85, e240_86, e240_87, e240_88, e240_89, e240_90, zpR_o, zpR_0t, zpR_u0t, zpR_u09, zpR_uo]
theorem r_doSway (d : Nat) (x0 h y q y2 w y3 : Int) (M : zM) (hS : okS (zrS M)) (h0 : 0 ≤ h) (h1 : h < 10) (q0 : 0 ≤ q) (q1 : q < 5) (w0 : 0 ≤ w) (w1 : w < 2) : zEm true (d + 1) 229 [(30, 197, x0), (0, h, y), (0, q, y2), (0, w, y3)] M = some ((98, 0, 0), zpR M (tSway (zrS M) h q w)) := by
  obtain ⟨-, -, -, -, -, hl, hr, -⟩ := hS
  obtain ⟨a1, a2⟩ := hl q q0 q1
  obtain ⟨b1, b2⟩ := hr q q0 q1
  obtain ⟨-, -, bl, -, -⟩ := zbits a1 a2 h0 h1
  obtain ⟨-, -, br, -, -⟩ := zbits b1 b2 h0 h1
  have key : ∀ S : zM, zor (zand (S 3 q) (zxor (zshl 1 h) (-1))) (zshl 1 h) = zor (S 3 q) (zshl 1 h) → zor (zand (S 4 q) (zxor (zshl 1 h) (-1))) (zshl 1 h) = zor (S 4 q) (zshl 1 h) → zEm true (d + 1) 229 [(30, 197, x0), (0, h, y), (0, q, y2), (0, w, y3)] (zpR M S) = some ((98, 0, 0), zpR M (tSway S h q w)) := by
    intro S e1 e2
    have hu : ∀ T i v v', zup (zup T i q v) i q v' = zup T i q v' := by
      intro T i v v'
      funext x z
      unfold zup
      split <;> rfl
    have hc : ∀ T v v' u, zup (zup (zup T 3 q v) 4 q u) 3 q v' = zup (zup T 3 q v') 4 q u := by
      intro T v v' u
      funext x z
      unfold zup
      by_cases c1 : x = 3 ∧ z = q ∧ x ≠ -1
      · have : ¬ (x = 4 ∧ z = q ∧ x ≠ -1) := by omega
        simp only [if_pos c1, if_neg this]
      · simp only [if_neg c1]
    unfold tSway
    by_cases c : w = 0
    · subst c
      rw [if_pos rfl, ← e1]
      simp (disch := first | assumption | exact zrm0 | exact zrm1 _ | exact zrm2 _ _ | exact zrm3 _ _ _ | exact zrm4 _ _ _ _ | omega) only [m229, ↓k_dp, ↓k_dn, k_dp, k_dn, k_dT, k_dF, k_ip, k_in, if_true, if_false, ne_eq, not_true_eq_false, not_false_eq_true, Int.reduceAdd, zup_a, zup_e, zup_j, z32_id, k_al0, k_gR, k_ic, k_il2, k_iadd, k_dup2, k_ild, k_ildS, k_ildW, k_il1, k_ishl, k_ixor, k_iand, k_ist, k_il3, k_ifne, k_goto, k_ior, k_rv, e229_0, e229_1, e229_4, e229_6, e229_7, e229_8, e229_9, e229_10, e229_11, e229_12, e229_13, e229_14, e229_15, e229_16, e229_17, e229_18, e229_21, e229_23, e229_24, e229_25, e229_26, e229_27, e229_28, e229_29, e229_30, e229_31, e229_32, e229_33, e229_34, e229_35, e229_38, e229_39, e229_42, e229_44, e229_47, e229_49, e229_50, e229_51, e229_52, e229_53, e229_54, e229_55, e229_56, e229_57, e229_58, zpR_3, zpR_4, zpR_u3, zpR_u4, hc]
    · have c2 : w = 1 := by omega
      subst c2
      rw [if_neg (by decide), ← e2]
      simp (disch := first | assumption | exact zrm0 | exact zrm1 _ | exact zrm2 _ _ | exact zrm3 _ _ _ | exact zrm4 _ _ _ _ | omega) only [m229, ↓k_dp, ↓k_dn, k_dp, k_dn, k_dT, k_dF, k_ip, k_in, if_true, if_false, ne_eq, not_true_eq_false, not_false_eq_true, Int.reduceAdd, zup_a, zup_e, zup_j, z32_id, k_al0, k_gR, k_ic, k_il2, k_iadd, k_dup2, k_ild, k_ildS, k_ildW, k_il1, k_ishl, k_ixor, k_iand, k_ist, k_il3, k_ifne, k_goto, k_ior, k_rv, e229_0, e229_1, e229_4, e229_6, e229_7, e229_8, e229_9, e229_10, e229_11, e229_12, e229_13, e229_14, e229_15, e229_16, e229_17, e229_18, e229_21, e229_23, e229_24, e229_25, e229_26, e229_27, e229_28, e229_29, e229_30, e229_31, e229_32, e229_33, e229_34, e229_35, e229_38, e229_39, e229_42, e229_44, e229_47, e229_49, e229_50, e229_51, e229_52, e229_53, e229_54, e229_55, e229_56, e229_57, e229_58, zpR_3, zpR_4, zpR_u3, zpR_u4, hu]
  have := key (zrS M) bl br
  rwa [zpR_self] at this
