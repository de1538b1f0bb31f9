/-! the least sand -/
def zfnd (p : Int → Bool) : Nat → Int → Int
  | 0, _ => -1
  | n + 1, k => if p k = true then k else zfnd p n (k + 1)
def sSand (S G : zM) (q : Int) : Int := zfnd (fun k => sWould (zup S 8 1 k) G q) 21 0
theorem zup_zup {T : zM} {i j v w : Int} : zup (zup T i j v) i j w = zup T i j w := by
  funext x y
  unfold zup
  split <;> rfl
theorem zup_id {T : zM} {i j v : Int} (h : T i j = v) : zup T i j v = T := by
  funext x y
  unfold zup
  split
  · rename_i h2; rw [h2.1, h2.2.1, h]
  · rfl
theorem zup_like {S T : zM} {i j v : Int} (h : ∀ a b, ¬ (a = i ∧ b = j) → T a b = S a b) (hi : i ≠ -1) : zup T i j v = zup S i j v := by
  funext x y
  unfold zup
  by_cases c : x = i ∧ y = j
  · rw [if_pos ⟨c.1, c.2, by omega⟩, if_pos ⟨c.1, c.2, by omega⟩]
  · rw [if_neg (fun z => c ⟨z.1, z.2.1⟩), if_neg (fun z => c ⟨z.1, z.2.1⟩)]
    exact h x y c
theorem m26 (ph : Bool) (d : Nat) (a x0 p0 y0 : Int) (M : zM) : zEm ph (d + 1) 26 [(29, a, x0), (0, p0, y0)] M = zEv ph d 26 0 [(29, a, x0), (0, p0, y0), (3, 0, 0)] [] M := rfl
theorem e26_0 (ph : Bool) (d : Nat) (L st : List zV) (M : zM) : zEv ph d 26 0 L st M = zcont ph d 26 (zstep ph (zEm ph d) 4 1 0 [0] L st M) := zEv_step rfl
theorem e26_1 (ph : Bool) (d : Nat) (L st : List zV) (M : zM) : zEv ph d 26 1 L st M = zcont ph d 26 (zstep ph (zEm ph d) 2 2 0 [1] L st M) := zEv_step rfl
theorem e26_2 (ph : Bool) (d : Nat) (L st : List zV) (M : zM) : zEv ph d 26 2 L st M = zcont ph d 26 (zstep ph (zEm ph d) 70 5 47 [2, 1, 29] L st M) := zEv_step rfl
theorem e26_5 (ph : Bool) (d : Nat) (L st : List zV) (M : zM) : zEv ph d 26 5 L st M = zcont ph d 26 (zstep ph (zEm ph d) 41 8 10 [] L st M) := zEv_step rfl
theorem e26_8 (ph : Bool) (d : Nat) (L st : List zV) (M : zM) : zEv ph d 26 8 L st M = zcont ph d 26 (zstep ph (zEm ph d) 0 9 0 [-1] L st M) := zEv_step rfl
theorem e26_9 (ph : Bool) (d : Nat) (L st : List zV) (M : zM) : zEv ph d 26 9 L st M = zcont ph d 26 (zstep ph (zEm ph d) 80 10 0 [] L st M) := zEv_step rfl
theorem e26_10 (ph : Bool) (d : Nat) (L st : List zV) (M : zM) : zEv ph d 26 10 L st M = zcont ph d 26 (zstep ph (zEm ph d) 4 11 0 [0] L st M) := zEv_step rfl
theorem e26_11 (ph : Bool) (d : Nat) (L st : List zV) (M : zM) : zEv ph d 26 11 L st M = zcont ph d 26 (zstep ph (zEm ph d) 62 14 0 [29, 8, 68, 26, 0] L st M) := zEv_step rfl
theorem e26_14 (ph : Bool) (d : Nat) (L st : List zV) (M : zM) : zEv ph d 26 14 L st M = zcont ph d 26 (zstep ph (zEm ph d) 4 15 0 [0] L st M) := zEv_step rfl
theorem e26_15 (ph : Bool) (d : Nat) (L st : List zV) (M : zM) : zEv ph d 26 15 L st M = zcont ph d 26 (zstep ph (zEm ph d) 62 18 0 [29, 3, 37, 26, 0] L st M) := zEv_step rfl
theorem e26_18 (ph : Bool) (d : Nat) (L st : List zV) (M : zM) : zEv ph d 26 18 L st M = zcont ph d 26 (zstep ph (zEm ph d) 70 21 113 [2, 0, 26] L st M) := zEv_step rfl
theorem e26_21 (ph : Bool) (d : Nat) (L st : List zV) (M : zM) : zEv ph d 26 21 L st M = zcont ph d 26 (zstep ph (zEm ph d) 0 22 0 [0] L st M) := zEv_step rfl
theorem e26_22 (ph : Bool) (d : Nat) (L st : List zV) (M : zM) : zEv ph d 26 22 L st M = zcont ph d 26 (zstep ph (zEm ph d) 5 23 0 [2] L st M) := zEv_step rfl
theorem e26_23 (ph : Bool) (d : Nat) (L st : List zV) (M : zM) : zEv ph d 26 23 L st M = zcont ph d 26 (zstep ph (zEm ph d) 2 24 0 [2] L st M) := zEv_step rfl
theorem e26_24 (ph : Bool) (d : Nat) (L st : List zV) (M : zM) : zEv ph d 26 24 L st M = zcont ph d 26 (zstep ph (zEm ph d) 0 26 0 [20] L st M) := zEv_step rfl
theorem e26_26 (ph : Bool) (d : Nat) (L st : List zV) (M : zM) : zEv ph d 26 26 L st M = zcont ph d 26 (zstep ph (zEm ph d) 50 29 62 [] L st M) := zEv_step rfl
theorem e26_29 (ph : Bool) (d : Nat) (L st : List zV) (M : zM) : zEv ph d 26 29 L st M = zcont ph d 26 (zstep ph (zEm ph d) 4 30 0 [0] L st M) := zEv_step rfl
theorem e26_30 (ph : Bool) (d : Nat) (L st : List zV) (M : zM) : zEv ph d 26 30 L st M = zcont ph d 26 (zstep ph (zEm ph d) 62 33 0 [29, 8, 68, 26, 0] L st M) := zEv_step rfl
theorem e26_33 (ph : Bool) (d : Nat) (L st : List zV) (M : zM) : zEv ph d 26 33 L st M = zcont ph d 26 (zstep ph (zEm ph d) 62 36 0 [26, 7, 8, 10, 2] L st M) := zEv_step rfl
theorem e26_36 (ph : Bool) (d : Nat) (L st : List zV) (M : zM) : zEv ph d 26 36 L st M = zcont ph d 26 (zstep ph (zEm ph d) 0 37 0 [1] L st M) := zEv_step rfl
theorem e26_37 (ph : Bool) (d : Nat) (L st : List zV) (M : zM) : zEv ph d 26 37 L st M = zcont ph d 26 (zstep ph (zEm ph d) 2 38 0 [2] L st M) := zEv_step rfl
theorem e26_38 (ph : Bool) (d : Nat) (L st : List zV) (M : zM) : zEv ph d 26 38 L st M = zcont ph d 26 (zstep ph (zEm ph d) 89 39 0 [] L st M) := zEv_step rfl
theorem e26_39 (ph : Bool) (d : Nat) (L st : List zV) (M : zM) : zEv ph d 26 39 L st M = zcont ph d 26 (zstep ph (zEm ph d) 4 40 0 [0] L st M) := zEv_step rfl
theorem e26_40 (ph : Bool) (d : Nat) (L st : List zV) (M : zM) : zEv ph d 26 40 L st M = zcont ph d 26 (zstep ph (zEm ph d) 62 43 0 [29, 8, 68, 26, 0] L st M) := zEv_step rfl
theorem e26_43 (ph : Bool) (d : Nat) (L st : List zV) (M : zM) : zEv ph d 26 43 L st M = zcont ph d 26 (zstep ph (zEm ph d) 4 44 0 [0] L st M) := zEv_step rfl
theorem e26_44 (ph : Bool) (d : Nat) (L st : List zV) (M : zM) : zEv ph d 26 44 L st M = zcont ph d 26 (zstep ph (zEm ph d) 62 47 0 [29, 2, 30, 28, 0] L st M) := zEv_step rfl
theorem e26_47 (ph : Bool) (d : Nat) (L st : List zV) (M : zM) : zEv ph d 26 47 L st M = zcont ph d 26 (zstep ph (zEm ph d) 2 48 0 [1] L st M) := zEv_step rfl
theorem e26_48 (ph : Bool) (d : Nat) (L st : List zV) (M : zM) : zEv ph d 26 48 L st M = zcont ph d 26 (zstep ph (zEm ph d) 70 51 121 [3, 1, 26] L st M) := zEv_step rfl
theorem e26_51 (ph : Bool) (d : Nat) (L st : List zV) (M : zM) : zEv ph d 26 51 L st M = zcont ph d 26 (zstep ph (zEm ph d) 40 54 56 [] L st M) := zEv_step rfl
theorem e26_54 (ph : Bool) (d : Nat) (L st : List zV) (M : zM) : zEv ph d 26 54 L st M = zcont ph d 26 (zstep ph (zEm ph d) 2 55 0 [2] L st M) := zEv_step rfl
theorem e26_55 (ph : Bool) (d : Nat) (L st : List zV) (M : zM) : zEv ph d 26 55 L st M = zcont ph d 26 (zstep ph (zEm ph d) 80 56 0 [] L st M) := zEv_step rfl
theorem e26_56 (ph : Bool) (d : Nat) (L st : List zV) (M : zM) : zEv ph d 26 56 L st M = zcont ph d 26 (zstep ph (zEm ph d) 8 59 0 [2, 1] L st M) := zEv_step rfl
theorem e26_59 (ph : Bool) (d : Nat) (L st : List zV) (M : zM) : zEv ph d 26 59 L st M = zcont ph d 26 (zstep ph (zEm ph d) 52 62 23 [] L st M) := zEv_step rfl
theorem e26_62 (ph : Bool) (d : Nat) (L st : List zV) (M : zM) : zEv ph d 26 62 L st M = zcont ph d 26 (zstep ph (zEm ph d) 0 63 0 [-1] L st M) := zEv_step rfl
theorem e26_63 (ph : Bool) (d : Nat) (L st : List zV) (M : zM) : zEv ph d 26 63 L st M = zcont ph d 26 (zstep ph (zEm ph d) 80 64 0 [] L st M) := zEv_step rfl
theorem m250 (ph : Bool) (d : Nat) (a x0 p0 y0 : Int) (M : zM) : zEm ph (d + 1) 250 [(30, a, x0), (0, p0, y0)] M = zEv ph d 250 0 [(30, a, x0), (0, p0, y0), (3, 0, 0), (3, 0, 0), (3, 0, 0)] [] M := rfl
theorem e250_0 (ph : Bool) (d : Nat) (L st : List zV) (M : zM) : zEv ph d 250 0 L st M = zcont ph d 250 (zstep ph (zEm ph d) 4 1 0 [0] L st M) := zEv_step rfl
theorem e250_1 (ph : Bool) (d : Nat) (L st : List zV) (M : zM) : zEv ph d 250 1 L st M = zcont ph d 250 (zstep ph (zEm ph d) 0 2 0 [0] L st M) := zEv_step rfl
theorem e250_2 (ph : Bool) (d : Nat) (L st : List zV) (M : zM) : zEv ph d 250 2 L st M = zcont ph d 250 (zstep ph (zEm ph d) 65 5 0 [30, 0] L st M) := zEv_step rfl
theorem e250_5 (ph : Bool) (d : Nat) (L st : List zV) (M : zM) : zEv ph d 250 5 L st M = zcont ph d 250 (zstep ph (zEm ph d) 4 6 0 [0] L st M) := zEv_step rfl
theorem e250_6 (ph : Bool) (d : Nat) (L st : List zV) (M : zM) : zEv ph d 250 6 L st M = zcont ph d 250 (zstep ph (zEm ph d) 2 7 0 [1] L st M) := zEv_step rfl
theorem e250_7 (ph : Bool) (d : Nat) (L st : List zV) (M : zM) : zEv ph d 250 7 L st M = zcont ph d 250 (zstep ph (zEm ph d) 70 10 206 [2, 1, 30] L st M) := zEv_step rfl
theorem e250_10 (ph : Bool) (d : Nat) (L st : List zV) (M : zM) : zEv ph d 250 10 L st M = zcont ph d 250 (zstep ph (zEm ph d) 41 13 15 [] L st M) := zEv_step rfl
theorem e250_13 (ph : Bool) (d : Nat) (L st : List zV) (M : zM) : zEv ph d 250 13 L st M = zcont ph d 250 (zstep ph (zEm ph d) 0 14 0 [-1] L st M) := zEv_step rfl
theorem e250_14 (ph : Bool) (d : Nat) (L st : List zV) (M : zM) : zEv ph d 250 14 L st M = zcont ph d 250 (zstep ph (zEm ph d) 80 15 0 [] L st M) := zEv_step rfl
theorem e250_15 (ph : Bool) (d : Nat) (L st : List zV) (M : zM) : zEv ph d 250 15 L st M = zcont ph d 250 (zstep ph (zEm ph d) 4 16 0 [0] L st M) := zEv_step rfl
theorem e250_16 (ph : Bool) (d : Nat) (L st : List zV) (M : zM) : zEv ph d 250 16 L st M = zcont ph d 250 (zstep ph (zEm ph d) 62 19 0 [30, 14, 2, 10, 368] L st M) := zEv_step rfl
theorem e250_19 (ph : Bool) (d : Nat) (L st : List zV) (M : zM) : zEv ph d 250 19 L st M = zcont ph d 250 (zstep ph (zEm ph d) 0 21 0 [80] L st M) := zEv_step rfl
theorem e250_21 (ph : Bool) (d : Nat) (L st : List zV) (M : zM) : zEv ph d 250 21 L st M = zcont ph d 250 (zstep ph (zEm ph d) 85 22 0 [] L st M) := zEv_step rfl
theorem e250_22 (ph : Bool) (d : Nat) (L st : List zV) (M : zM) : zEv ph d 250 22 L st M = zcont ph d 250 (zstep ph (zEm ph d) 5 23 0 [2] L st M) := zEv_step rfl
theorem e250_23 (ph : Bool) (d : Nat) (L st : List zV) (M : zM) : zEv ph d 250 23 L st M = zcont ph d 250 (zstep ph (zEm ph d) 0 24 0 [-1] L st M) := zEv_step rfl
theorem e250_24 (ph : Bool) (d : Nat) (L st : List zV) (M : zM) : zEv ph d 250 24 L st M = zcont ph d 250 (zstep ph (zEm ph d) 5 25 0 [3] L st M) := zEv_step rfl
theorem e250_25 (ph : Bool) (d : Nat) (L st : List zV) (M : zM) : zEv ph d 250 25 L st M = zcont ph d 250 (zstep ph (zEm ph d) 0 26 0 [0] L st M) := zEv_step rfl
theorem e250_26 (ph : Bool) (d : Nat) (L st : List zV) (M : zM) : zEv ph d 250 26 L st M = zcont ph d 250 (zstep ph (zEm ph d) 5 28 0 [4] L st M) := zEv_step rfl
theorem e250_28 (ph : Bool) (d : Nat) (L st : List zV) (M : zM) : zEv ph d 250 28 L st M = zcont ph d 250 (zstep ph (zEm ph d) 2 30 0 [4] L st M) := zEv_step rfl
theorem e250_30 (ph : Bool) (d : Nat) (L st : List zV) (M : zM) : zEv ph d 250 30 L st M = zcont ph d 250 (zstep ph (zEm ph d) 0 32 0 [20] L st M) := zEv_step rfl
theorem e250_32 (ph : Bool) (d : Nat) (L st : List zV) (M : zM) : zEv ph d 250 32 L st M = zcont ph d 250 (zstep ph (zEm ph d) 50 35 66 [] L st M) := zEv_step rfl
theorem e250_35 (ph : Bool) (d : Nat) (L st : List zV) (M : zM) : zEv ph d 250 35 L st M = zcont ph d 250 (zstep ph (zEm ph d) 2 36 0 [3] L st M) := zEv_step rfl
theorem e250_36 (ph : Bool) (d : Nat) (L st : List zV) (M : zM) : zEv ph d 250 36 L st M = zcont ph d 250 (zstep ph (zEm ph d) 0 37 0 [-1] L st M) := zEv_step rfl
theorem e250_37 (ph : Bool) (d : Nat) (L st : List zV) (M : zM) : zEv ph d 250 37 L st M = zcont ph d 250 (zstep ph (zEm ph d) 47 40 66 [] L st M) := zEv_step rfl
theorem e250_40 (ph : Bool) (d : Nat) (L st : List zV) (M : zM) : zEv ph d 250 40 L st M = zcont ph d 250 (zstep ph (zEm ph d) 4 41 0 [0] L st M) := zEv_step rfl
theorem e250_41 (ph : Bool) (d : Nat) (L st : List zV) (M : zM) : zEv ph d 250 41 L st M = zcont ph d 250 (zstep ph (zEm ph d) 62 44 0 [30, 14, 2, 10, 368] L st M) := zEv_step rfl
theorem e250_44 (ph : Bool) (d : Nat) (L st : List zV) (M : zM) : zEv ph d 250 44 L st M = zcont ph d 250 (zstep ph (zEm ph d) 0 46 0 [80] L st M) := zEv_step rfl
theorem e250_46 (ph : Bool) (d : Nat) (L st : List zV) (M : zM) : zEv ph d 250 46 L st M = zcont ph d 250 (zstep ph (zEm ph d) 2 48 0 [4] L st M) := zEv_step rfl
theorem e250_48 (ph : Bool) (d : Nat) (L st : List zV) (M : zM) : zEv ph d 250 48 L st M = zcont ph d 250 (zstep ph (zEm ph d) 89 49 0 [] L st M) := zEv_step rfl
theorem e250_49 (ph : Bool) (d : Nat) (L st : List zV) (M : zM) : zEv ph d 250 49 L st M = zcont ph d 250 (zstep ph (zEm ph d) 4 50 0 [0] L st M) := zEv_step rfl
theorem e250_50 (ph : Bool) (d : Nat) (L st : List zV) (M : zM) : zEv ph d 250 50 L st M = zcont ph d 250 (zstep ph (zEm ph d) 2 51 0 [1] L st M) := zEv_step rfl
theorem e250_51 (ph : Bool) (d : Nat) (L st : List zV) (M : zM) : zEv ph d 250 51 L st M = zcont ph d 250 (zstep ph (zEm ph d) 70 54 214 [2, 1, 30] L st M) := zEv_step rfl
theorem e250_54 (ph : Bool) (d : Nat) (L st : List zV) (M : zM) : zEv ph d 250 54 L st M = zcont ph d 250 (zstep ph (zEm ph d) 40 57 60 [] L st M) := zEv_step rfl
theorem e250_57 (ph : Bool) (d : Nat) (L st : List zV) (M : zM) : zEv ph d 250 57 L st M = zcont ph d 250 (zstep ph (zEm ph d) 2 59 0 [4] L st M) := zEv_step rfl
theorem e250_59 (ph : Bool) (d : Nat) (L st : List zV) (M : zM) : zEv ph d 250 59 L st M = zcont ph d 250 (zstep ph (zEm ph d) 5 60 0 [3] L st M) := zEv_step rfl
theorem e250_60 (ph : Bool) (d : Nat) (L st : List zV) (M : zM) : zEv ph d 250 60 L st M = zcont ph d 250 (zstep ph (zEm ph d) 8 63 0 [4, 1] L st M) := zEv_step rfl
theorem e250_63 (ph : Bool) (d : Nat) (L st : List zV) (M : zM) : zEv ph d 250 63 L st M = zcont ph d 250 (zstep ph (zEm ph d) 52 66 28 [] L st M) := zEv_step rfl
theorem e250_66 (ph : Bool) (d : Nat) (L st : List zV) (M : zM) : zEv ph d 250 66 L st M = zcont ph d 250 (zstep ph (zEm ph d) 4 67 0 [0] L st M) := zEv_step rfl
theorem e250_67 (ph : Bool) (d : Nat) (L st : List zV) (M : zM) : zEv ph d 250 67 L st M = zcont ph d 250 (zstep ph (zEm ph d) 62 70 0 [30, 14, 2, 10, 368] L st M) := zEv_step rfl
theorem e250_70 (ph : Bool) (d : Nat) (L st : List zV) (M : zM) : zEv ph d 250 70 L st M = zcont ph d 250 (zstep ph (zEm ph d) 0 72 0 [80] L st M) := zEv_step rfl
theorem e250_72 (ph : Bool) (d : Nat) (L st : List zV) (M : zM) : zEv ph d 250 72 L st M = zcont ph d 250 (zstep ph (zEm ph d) 2 73 0 [2] L st M) := zEv_step rfl
theorem e250_73 (ph : Bool) (d : Nat) (L st : List zV) (M : zM) : zEv ph d 250 73 L st M = zcont ph d 250 (zstep ph (zEm ph d) 89 74 0 [] L st M) := zEv_step rfl
theorem e250_74 (ph : Bool) (d : Nat) (L st : List zV) (M : zM) : zEv ph d 250 74 L st M = zcont ph d 250 (zstep ph (zEm ph d) 2 75 0 [3] L st M) := zEv_step rfl
theorem e250_75 (ph : Bool) (d : Nat) (L st : List zV) (M : zM) : zEv ph d 250 75 L st M = zcont ph d 250 (zstep ph (zEm ph d) 80 76 0 [] L st M) := zEv_step rfl
theorem c_sanded0 (d : Nat) (x0 q y : Int) (M S : zM) (hS : zt S = S) (hG : okG (zvG M 30)) (q0 : 0 ≤ q) (q1 : q < 5) : ∀ (n : Nat) (k : Int) (T : zM), zt T = T → (∀ a b, ¬ (a = 8 ∧ b = 1) → T a b = S a b) → k + n = 21 → 0 ≤ k → ∃ U, zEv true (d + 6) 26 23 [(29, 0, x0), (0, q, y), (0, k, 0)] [] (zput M 68 T) = some ((0, zfnd (fun k => sWould (zup S 8 1 k) (zvG M 30) q) n k, 0), zput M 68 U)
  | 0, k, T, hT, hs, hn, h0 => by
    refine ⟨T, ?_⟩
    unfold zfnd
    simp (disch := first | assumption | exact zrm0 | exact zrm1 _ | exact zrm2 _ _ | exact zrm3 _ _ _ | exact zrm4 _ _ _ _ | omega) only [m26, ↓k_dp, ↓k_dn, k_dp, k_dn, k_dT, k_dF, k_ip, k_in, if_true, if_false, ne_eq, not_true_eq_false, not_false_eq_true, Int.reduceAdd, zup_a, zup_e, zup_j, z32_id, k_al0, k_il1, k_v2r, k_ifne, k_ic, k_ri, k_gR, k_v2, k_is2, k_il2, k_icgt, k_ist, k_v3r, k_ifeq, k_inc2, k_goto, zb0_some, zb1_some, e26_0, e26_1, e26_2, e26_5, e26_8, e26_9, e26_10, e26_11, e26_14, e26_15, e26_18, e26_21, e26_22, e26_23, e26_24, e26_26, e26_29, e26_30, e26_33, e26_36, e26_37, e26_38, e26_39, e26_40, e26_43, e26_44, e26_47, e26_48, e26_51, e26_54, e26_55, e26_56, e26_59, e26_62, e26_63]
  | n + 1, k, T, hT, hs, hn, h0 => by
    have hw : zup (zput M 68 T) (68 + 8) 1 k = zput M 68 (zup S 8 1 k) := by
      rw [zput_u8 (by omega) (by omega) (by omega), zup_like hs (by omega)]
    have hz : zt (zup S 8 1 k) = zup S 8 1 k := zt_up (by unfold sdom; omega) hS
    have hG2 : okG (zvG (zput M 68 (zup S 8 1 k)) 30) := by rw [zvG_puto (by omega)]; exact hG
    have hw' : zup (zput M 68 T) 76 1 k = zput M 68 (zup S 8 1 k) := hw
    by_cases c : sWould (zup S 8 1 k) (zvG M 30) q = true
    · refine ⟨zup S 8 1 k, ?_⟩
      unfold zfnd
      rw [if_pos c, e26_23]
      simp (disch := first | assumption | exact zrm0 | exact zrm1 _ | exact zrm2 _ _ | exact zrm3 _ _ _ | exact zrm4 _ _ _ _ | omega) only [m26, ↓k_dp, ↓k_dn, k_dp, k_dn, k_dT, k_dF, k_ip, k_in, if_true, if_false, ne_eq, not_true_eq_false, not_false_eq_true, Int.reduceAdd, zup_a, zup_e, zup_j, z32_id, k_al0, k_il1, k_v2r, k_ifne, k_ic, k_ri, k_gR, k_v2, k_is2, k_il2, k_icgt, k_ist, k_v3r, k_ifeq, k_inc2, k_goto, zb0_some, zb1_some, e26_0, e26_1, e26_2, e26_5, e26_8, e26_9, e26_10, e26_11, e26_14, e26_15, e26_18, e26_21, e26_22, e26_24, e26_26, e26_29, e26_30, e26_33, e26_36, e26_37, e26_38, e26_39, e26_40, e26_43, e26_44, e26_47, e26_48, e26_51, e26_54, e26_55, e26_56, e26_59, e26_62, e26_63, hw', s_wouldCarry, zvS_put, zvG_puto, hz, c]
    · obtain ⟨U, hU⟩ := c_sanded0 d x0 q y M S hS hG q0 q1 n (k + 1) (zup S 8 1 k) hz (fun a b h => by unfold zup; rw [if_neg (fun z => h ⟨z.1, z.2.1⟩)]) (by omega) (by omega)
      refine ⟨U, ?_⟩
      unfold zfnd
      rw [if_neg c, e26_23]
      simp (disch := first | assumption | exact zrm0 | exact zrm1 _ | exact zrm2 _ _ | exact zrm3 _ _ _ | exact zrm4 _ _ _ _ | omega) only [m26, ↓k_dp, ↓k_dn, k_dp, k_dn, k_dT, k_dF, k_ip, k_in, if_true, if_false, ne_eq, not_true_eq_false, not_false_eq_true, Int.reduceAdd, zup_a, zup_e, zup_j, z32_id, k_al0, k_il1, k_v2r, k_ifne, k_ic, k_ri, k_gR, k_v2, k_is2, k_il2, k_icgt, k_ist, k_v3r, k_ifeq, k_inc2, k_goto, zb0_some, zb1_some, e26_0, e26_1, e26_2, e26_5, e26_8, e26_9, e26_10, e26_11, e26_14, e26_15, e26_18, e26_21, e26_22, e26_24, e26_26, e26_29, e26_30, e26_33, e26_36, e26_37, e26_38, e26_39, e26_40, e26_43, e26_44, e26_47, e26_48, e26_51, e26_54, e26_55, e26_56, e26_59, e26_62, e26_63, hw', s_wouldCarry, zvS_put, zvG_puto, hz, c, Bool.false_eq_true]
      exact hU
theorem c_sanded (d : Nat) (x0 q y : Int) (M : zM) (hG : okG (zvG M 30)) : ∃ M', zEm true (d + 8) 26 [(29, 0, x0), (0, q, y)] M = some ((0, if 0 ≤ q ∧ q < M 30 8 then sSand (zvS M 37) (zvG M 30) q else -1, 0), M') ∧ ∀ x y, ¬ (68 ≤ x ∧ x ≤ 76) → M' x y = M x y := by
  obtain ⟨-, -, ⟨g3, g4⟩, -⟩ := okG_M hG
  by_cases c : 0 ≤ q ∧ q < M 30 8
  · have e : zvG (cpS M 68 37) 30 = zvG M 30 := zvG_cpo (by omega)
    obtain ⟨U, hU⟩ := c_sanded0 (d + 1) x0 q y (cpS M 68 37) (zvS M 37) zt_v (by rw [e]; exact hG) c.1 (by omega) 21 0 (zvS M 37) zt_v (fun _ _ _ => rfl) (by omega) (Int.le_refl _)
    have e2 : zput (cpS M 68 37) 68 (zvS M 37) = cpS M 68 37 := by
      rw [← zvS_cp (M := M) (a := 68) (b := 37) (by omega) (by omega), zput_self]
    rw [e2, e] at hU
    refine ⟨zput (cpS M 68 37) 68 U, ?_, fun x y h => ?_⟩
    · rw [if_pos c]
      unfold sSand
      simp (disch := first | assumption | exact zrm0 | exact zrm1 _ | exact zrm2 _ _ | exact zrm3 _ _ _ | exact zrm4 _ _ _ _ | omega) only [m26, ↓k_dp, ↓k_dn, k_dp, k_dn, k_dT, k_dF, k_ip, k_in, if_true, if_false, ne_eq, not_true_eq_false, not_false_eq_true, Int.reduceAdd, zup_a, zup_e, zup_j, z32_id, k_al0, k_il1, k_v2r, k_ifne, k_ic, k_ri, k_gR, k_v2, k_is2, k_il2, k_icgt, k_ist, k_v3r, k_ifeq, k_inc2, k_goto, zb0_some, zb1_some, e26_0, e26_1, e26_2, e26_5, e26_8, e26_9, e26_10, e26_11, e26_14, e26_15, e26_18, e26_21, e26_22, e26_24, e26_26, e26_29, e26_30, e26_33, e26_36, e26_37, e26_38, e26_39, e26_40, e26_43, e26_44, e26_47, e26_48, e26_51, e26_54, e26_55, e26_56, e26_59, e26_62, e26_63, c_isQuestion, if_pos c, s_copyS]
      exact hU
    · rw [zput_o (by omega), cpS_o (by omega)]
  · refine ⟨M, ?_, fun _ _ _ => rfl⟩
    rw [if_neg c]
    simp (disch := first | assumption | exact zrm0 | exact zrm1 _ | exact zrm2 _ _ | exact zrm3 _ _ _ | exact zrm4 _ _ _ _ | omega) only [m26, ↓k_dp, ↓k_dn, k_dp, k_dn, k_dT, k_dF, k_ip, k_in, if_true, if_false, ne_eq, not_true_eq_false, not_false_eq_true, Int.reduceAdd, zup_a, zup_e, zup_j, z32_id, k_al0, k_il1, k_v2r, k_ifne, k_ic, k_ri, k_gR, k_v2, k_is2, k_il2, k_icgt, k_ist, k_v3r, k_ifeq, k_inc2, k_goto, zb0_some, zb1_some, e26_0, e26_1, e26_2, e26_5, e26_8, e26_9, e26_10, e26_11, e26_14, e26_15, e26_18, e26_21, e26_22, e26_23, e26_24, e26_26, e26_29, e26_30, e26_33, e26_36, e26_37, e26_38, e26_39, e26_40, e26_43, e26_44, e26_47, e26_48, e26_51, e26_54, e26_55, e26_56, e26_59, e26_62, e26_63, c_isQuestion, if_neg c]
theorem zpR_80 {M T : zM} {v : Int} : zup (zpR M T) 199 80 v = zpR M (zup T 8 1 v) := zpR_up (by unfold sdom; omega) (by unfold rix; simp)
theorem r_sanded0 (d : Nat) (z0 q y was : Int) (M S : zM) (hz : zt S = S) (hS : okS S) (hG : okG (zrG M)) (q0 : 0 ≤ q) (q1 : q < 5) (hw : S 8 1 = was) : ∀ (n : Nat) (k : Int) (T : zM), (∀ a b, ¬ (a = 8 ∧ b = 1) → T a b = S a b) → k + n = 21 → 0 ≤ k → zEv true (d + 7) 250 28 [(30, 197, z0), (0, q, y), (0, was, 0), (0, -1, 0), (0, k, 0)] [] (zpR M T) = some ((0, zfnd (fun k => sWould (zup S 8 1 k) (zrG M) q) n k, 0), zpR M S)
  | 0, k, T, hs, hn, h0 => by
    have hr : zup T 8 1 was = S := by rw [zup_like hs (by omega), zup_id hw]
    unfold zfnd
    simp (disch := first | assumption | exact zrm0 | exact zrm1 _ | exact zrm2 _ _ | exact zrm3 _ _ _ | exact zrm4 _ _ _ _ | omega) only [m250, ↓k_dp, ↓k_dn, k_dp, k_dn, k_dT, k_dF, k_ip, k_in, if_true, if_false, ne_eq, not_true_eq_false, not_false_eq_true, Int.reduceAdd, zup_a, zup_e, zup_j, z32_id, k_al0, k_ic, k_pI, k_il1, k_v2r, k_ifne, k_ri, k_gR, k_ild, k_ildS, k_ildW, k_is2, k_is3, k_is4, k_il4, k_icgt, k_il3, k_icne, k_ist, k_ifeq, k_inc4, k_goto, k_il2, zb0_some, zb1_some, e250_0, e250_1, e250_2, e250_5, e250_6, e250_7, e250_10, e250_13, e250_14, e250_15, e250_16, e250_19, e250_21, e250_22, e250_23, e250_24, e250_25, e250_26, e250_28, e250_30, e250_32, e250_35, e250_36, e250_37, e250_40, e250_41, e250_44, e250_46, e250_48, e250_49, e250_50, e250_51, e250_54, e250_57, e250_59, e250_60, e250_63, e250_66, e250_67, e250_70, e250_72, e250_73, e250_74, e250_75, zpR_80, hr]
  | n + 1, k, T, hs, hn, h0 => by
    have hw2 : zup T 8 1 k = zup S 8 1 k := zup_like hs (by omega)
    have hz2 : zt (zup S 8 1 k) = zup S 8 1 k := zt_up (by unfold sdom; omega) hz
    have hS2 : okS (zrS (zpR M (zup S 8 1 k))) := by rw [zrS_pR, hz2]; exact okS_u8 hS h0 (by omega)
    have hG2 : okG (zrG (zpR M (zup S 8 1 k))) := by rw [zrG_pR]; exact hG
    have hr : zup (zup S 8 1 k) 8 1 was = S := by rw [zup_zup, zup_id hw]
    by_cases c : sWould (zup S 8 1 k) (zrG M) q = true
    · unfold zfnd
      rw [if_pos c, e250_28]
      simp (disch := first | assumption | exact zrm0 | exact zrm1 _ | exact zrm2 _ _ | exact zrm3 _ _ _ | exact zrm4 _ _ _ _ | omega) only [m250, ↓k_dp, ↓k_dn, k_dp, k_dn, k_dT, k_dF, k_ip, k_in, if_true, if_false, ne_eq, not_true_eq_false, not_false_eq_true, Int.reduceAdd, zup_a, zup_e, zup_j, z32_id, k_al0, k_ic, k_pI, k_il1, k_v2r, k_ifne, k_ri, k_gR, k_ild, k_ildS, k_ildW, k_is2, k_is3, k_is4, k_il4, k_icgt, k_il3, k_icne, k_ist, k_ifeq, k_inc4, k_goto, k_il2, zb0_some, zb1_some, e250_0, e250_1, e250_2, e250_5, e250_6, e250_7, e250_10, e250_13, e250_14, e250_15, e250_16, e250_19, e250_21, e250_22, e250_23, e250_24, e250_25, e250_26, e250_30, e250_32, e250_35, e250_36, e250_37, e250_40, e250_41, e250_44, e250_46, e250_48, e250_49, e250_50, e250_51, e250_54, e250_57, e250_59, e250_60, e250_63, e250_66, e250_67, e250_70, e250_72, e250_73, e250_74, e250_75, zpR_80, hw2, r_wouldBe, zrS_pR, zrG_pR, hz2, c]
      rw [e250_28]
      simp (disch := first | assumption | exact zrm0 | exact zrm1 _ | exact zrm2 _ _ | exact zrm3 _ _ _ | exact zrm4 _ _ _ _ | omega) only [m250, ↓k_dp, ↓k_dn, k_dp, k_dn, k_dT, k_dF, k_ip, k_in, if_true, if_false, ne_eq, not_true_eq_false, not_false_eq_true, Int.reduceAdd, zup_a, zup_e, zup_j, z32_id, k_al0, k_ic, k_pI, k_il1, k_v2r, k_ifne, k_ri, k_gR, k_ild, k_ildS, k_ildW, k_is2, k_is3, k_is4, k_il4, k_icgt, k_il3, k_icne, k_ist, k_ifeq, k_inc4, k_goto, k_il2, zb0_some, zb1_some, e250_0, e250_1, e250_2, e250_5, e250_6, e250_7, e250_10, e250_13, e250_14, e250_15, e250_16, e250_19, e250_21, e250_22, e250_23, e250_24, e250_25, e250_26, e250_30, e250_32, e250_35, e250_36, e250_37, e250_40, e250_41, e250_44, e250_46, e250_48, e250_49, e250_50, e250_51, e250_54, e250_57, e250_59, e250_60, e250_63, e250_66, e250_67, e250_70, e250_72, e250_73, e250_74, e250_75, zpR_80, hr]
      by_cases ck : 20 < k + 1
      · simp (disch := first | assumption | exact zrm0 | exact zrm1 _ | exact zrm2 _ _ | exact zrm3 _ _ _ | exact zrm4 _ _ _ _ | omega) only [m250, ↓k_dp, ↓k_dn, k_dp, k_dn, k_dT, k_dF, k_ip, k_in, if_true, if_false, ne_eq, not_true_eq_false, not_false_eq_true, Int.reduceAdd, zup_a, zup_e, zup_j, z32_id, k_al0, k_ic, k_pI, k_il1, k_v2r, k_ifne, k_ri, k_gR, k_ild, k_ildS, k_ildW, k_is2, k_is3, k_is4, k_il4, k_icgt, k_il3, k_icne, k_ist, k_ifeq, k_inc4, k_goto, k_il2, zb0_some, zb1_some, e250_0, e250_1, e250_2, e250_5, e250_6, e250_7, e250_10, e250_13, e250_14, e250_15, e250_16, e250_19, e250_21, e250_22, e250_23, e250_24, e250_25, e250_26, e250_30, e250_32, e250_35, e250_36, e250_37, e250_40, e250_41, e250_44, e250_46, e250_48, e250_49, e250_50, e250_51, e250_54, e250_57, e250_59, e250_60, e250_63, e250_66, e250_67, e250_70, e250_72, e250_73, e250_74, e250_75, zpR_80, hr]
      · simp (disch := first | assumption | exact zrm0 | exact zrm1 _ | exact zrm2 _ _ | exact zrm3 _ _ _ | exact zrm4 _ _ _ _ | omega) only [m250, ↓k_dp, ↓k_dn, k_dp, k_dn, k_dT, k_dF, k_ip, k_in, if_true, if_false, ne_eq, not_true_eq_false, not_false_eq_true, Int.reduceAdd, zup_a, zup_e, zup_j, z32_id, k_al0, k_ic, k_pI, k_il1, k_v2r, k_ifne, k_ri, k_gR, k_ild, k_ildS, k_ildW, k_is2, k_is3, k_is4, k_il4, k_icgt, k_il3, k_icne, k_ist, k_ifeq, k_inc4, k_goto, k_il2, zb0_some, zb1_some, e250_0, e250_1, e250_2, e250_5, e250_6, e250_7, e250_10, e250_13, e250_14, e250_15, e250_16, e250_19, e250_21, e250_22, e250_23, e250_24, e250_25, e250_26, e250_30, e250_32, e250_35, e250_36, e250_37, e250_40, e250_41, e250_44, e250_46, e250_48, e250_49, e250_50, e250_51, e250_54, e250_57, e250_59, e250_60, e250_63, e250_66, e250_67, e250_70, e250_72, e250_73, e250_74, e250_75, zpR_80, hr]
    · have hU := r_sanded0 d z0 q y was M S hz hS hG q0 q1 hw n (k + 1) (zup S 8 1 k) (fun a b h => by unfold zup; rw [if_neg (fun z => h ⟨z.1, z.2.1⟩)]) (by omega) (by omega)
      unfold zfnd
      rw [if_neg c, e250_28]
      simp (disch := first | assumption | exact zrm0 | exact zrm1 _ | exact zrm2 _ _ | exact zrm3 _ _ _ | exact zrm4 _ _ _ _ | omega) only [m250, ↓k_dp, ↓k_dn, k_dp, k_dn, k_dT, k_dF, k_ip, k_in, if_true, if_false, ne_eq, not_true_eq_false, not_false_eq_true, Int.reduceAdd, zup_a, zup_e, zup_j, z32_id, k_al0, k_ic, k_pI, k_il1, k_v2r, k_ifne, k_ri, k_gR, k_ild, k_ildS, k_ildW, k_is2, k_is3, k_is4, k_il4, k_icgt, k_il3, k_icne, k_ist, k_ifeq, k_inc4, k_goto, k_il2, zb0_some, zb1_some, e250_0, e250_1, e250_2, e250_5, e250_6, e250_7, e250_10, e250_13, e250_14, e250_15, e250_16, e250_19, e250_21, e250_22, e250_23, e250_24, e250_25, e250_26, e250_30, e250_32, e250_35, e250_36, e250_37, e250_40, e250_41, e250_44, e250_46, e250_48, e250_49, e250_50, e250_51, e250_54, e250_57, e250_59, e250_60, e250_63, e250_66, e250_67, e250_70, e250_72, e250_73, e250_74, e250_75, zpR_80, hw2, r_wouldBe, zrS_pR, zrG_pR, hz2, c, Bool.false_eq_true]
      exact hU
theorem r_sanded (d : Nat) (z0 q y : Int) (M : zM) (hS : okS (zrS M)) (hG : okG (zrG M)) : zEm true (d + 8) 250 [(30, 197, z0), (0, q, y)] M = some ((0, if 0 ≤ q ∧ q < M 199 2 then sSand (zrS M) (zrG M) q else -1, 0), zup M 197 0 0) := by
  obtain ⟨-, -, ⟨g3, g4⟩, -⟩ := okR_M hG
  by_cases c : 0 ≤ q ∧ q < M 199 2
  · have e : zrS M 8 1 = M 199 80 := zrS_8 (by omega) (by omega)
    have h := r_sanded0 d z0 q y (M 199 80) (zup M 197 0 0) (zrS M) zt_r hS (by rw [rT_G]; exact hG) c.1 (by omega) e 21 0 (zrS M) (fun _ _ _ => rfl) (by omega) (Int.le_refl _)
    have e2 : zpR (zup M 197 0 0) (zrS M) = zup M 197 0 0 := by
      rw [← rT_S (M := M) (v := 0), zpR_self]
    rw [e2, rT_G] at h
    rw [if_pos c]
    unfold sSand
    simp (disch := first | assumption | exact zrm0 | exact zrm1 _ | exact zrm2 _ _ | exact zrm3 _ _ _ | exact zrm4 _ _ _ _ | omega) only [m250, ↓k_dp, ↓k_dn, k_dp, k_dn, k_dT, k_dF, k_ip, k_in, if_true, if_false, ne_eq, not_true_eq_false, not_false_eq_true, Int.reduceAdd, zup_a, zup_e, zup_j, z32_id, k_al0, k_ic, k_pI, k_il1, k_v2r, k_ifne, k_ri, k_gR, k_ild, k_ildS, k_ildW, k_is2, k_is3, k_is4, k_il4, k_icgt, k_il3, k_icne, k_ist, k_ifeq, k_inc4, k_goto, k_il2, zb0_some, zb1_some, e250_0, e250_1, e250_2, e250_5, e250_6, e250_7, e250_10, e250_13, e250_14, e250_15, e250_16, e250_19, e250_21, e250_22, e250_23, e250_24, e250_25, e250_26, e250_30, e250_32, e250_35, e250_36, e250_37, e250_40, e250_41, e250_44, e250_46, e250_48, e250_49, e250_50, e250_51, e250_54, e250_57, e250_59, e250_60, e250_63, e250_66, e250_67, e250_70, e250_72, e250_73, e250_74, e250_75, rT_isQuestion, if_pos c]
    exact h
  · rw [if_neg c]
    simp (disch := first | assumption | exact zrm0 | exact zrm1 _ | exact zrm2 _ _ | exact zrm3 _ _ _ | exact zrm4 _ _ _ _ | omega) only [m250, ↓k_dp, ↓k_dn, k_dp, k_dn, k_dT, k_dF, k_ip, k_in, if_true, if_false, ne_eq, not_true_eq_false, not_false_eq_true, Int.reduceAdd, zup_a, zup_e, zup_j, z32_id, k_al0, k_ic, k_pI, k_il1, k_v2r, k_ifne, k_ri, k_gR, k_ild, k_ildS, k_ildW, k_is2, k_is3, k_is4, k_il4, k_icgt, k_il3, k_icne, k_ist, k_ifeq, k_inc4, k_goto, k_il2, zb0_some, zb1_some, e250_0, e250_1, e250_2, e250_5, e250_6, e250_7, e250_10, e250_13, e250_14, e250_15, e250_16, e250_19, e250_21, e250_22, e250_23, e250_24, e250_25, e250_26, e250_28, e250_30, e250_32, e250_35, e250_36, e250_37, e250_40, e250_41, e250_44, e250_46, e250_48, e250_49, e250_50, e250_51, e250_54, e250_57, e250_59, e250_60, e250_63, e250_66, e250_67, e250_70, e250_72, e250_73, e250_74, e250_75, rT_isQuestion, if_neg c]
theorem pair_sanded (d : Nat) (x0 z0 q y1 z1 : Int) (M : zM) (hC : relC M) (hE : relE M) (hF : relF M) (hH : relH M) : zPairH M (zEm true (d + 8) 26 [(29, 0, x0), (0, q, y1)] M) (fun M1 => zEm true (d + 8) 250 [(30, 197, z0), (0, q, z1)] M1) := by
  obtain ⟨n0, n1, n2, n3, n4, n5⟩ := relC_n hC
  obtain ⟨M1, k1, k2⟩ := c_sanded d x0 q y1 M hC.2
  have e1 : zrS M1 = zvS M 37 := by rw [zrS_eq (M := M) (fun y _ _ _ => k2 199 y (by omega))]; exact hE.1
  have e2 : zrG M1 = zvG M 30 := by rw [zrG_eq (M := M) (fun y _ _ => k2 199 y (by omega))]; exact hC.1
  have r := r_sanded d z0 q z1 M1 (by rw [e1]; exact hE.2.1.1) (by rw [e2]; exact hC.2)
  rw [e1, e2, k2 199 2 (by omega), n2] at r
  refine ⟨_, M1, _, k1, r, ?_, fun x y h => ?_⟩
  · unfold relH at hH ⊢
    have e : ∀ x y, ¬ (68 ≤ x ∧ x ≤ 76) → ¬ (x = 197 ∧ y = 0) → zup M1 197 0 0 x y = M x y := fun x y h1 h2 => by
      have : zup M1 197 0 0 x y = M1 x y := by unfold zup; rw [if_neg (fun z => h2 ⟨z.1, z.2.1⟩)]
      rw [this, k2 x y h1]
    simp (disch := omega) only [e]
    exact hH
  · unfold zFH at h
    have : zup M1 197 0 0 x y = M1 x y := by unfold zup; rw [if_neg (by omega)]
    rw [this, k2 x y (by omega)]
