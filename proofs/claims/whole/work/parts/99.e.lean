/-! what was heard: the class -/
theorem zit_rel {α β : Type} {f : Int → α → α} {g : Int → β → β} (P : Int → α → β → Prop) : ∀ (n : Nat) (h : Int) (a : α) (b : β), P h a b → (∀ k a b, h ≤ k → k < h + n → P k a b → P (k + 1) (f k a) (g k b)) → P (h + n) (zit f n h a) (zit g n h b)
  | 0, h, a, b, h0, _ => by simpa [zit] using h0
  | n + 1, h, a, b, h0, hs => by
    rw [zit, zit, show h + ((n + 1 : Nat) : Int) = (h + 1) + (n : Nat) by omega]
    exact zit_rel P n (h + 1) _ _ (hs h a b (Int.le_refl _) (by omega) h0) (fun k a b h1 h2 => hs k a b (by omega) (by omega))
theorem zit_pt {A : Int} (v : Int → Int → Int) (hA : A ≠ -1) {N : zM} : ∀ (n : Nat) (x y : Int), zit (fun h N => zup N A h (v h (N A h))) n 0 N x y = if x = A ∧ 0 ≤ y ∧ y < n then v y (N A y) else N x y
  | 0, x, y => by
    rw [if_neg (by omega)]; rfl
  | n + 1, x, y => by
    have ih := fun x y => zit_pt v hA (N := N) n x y
    rw [zit_add]
    generalize zit (fun h N => zup N A h (v h (N A h))) n 0 N = Z at ih ⊢
    unfold zup
    by_cases c : x = A ∧ y = 0 + (n : Int) ∧ x ≠ -1
    · rw [if_pos c, ih, if_neg (by omega), if_pos (by omega)]
      obtain ⟨rfl, rfl, -⟩ := c
      rfl
    · rw [if_neg c, ih]
      by_cases c2 : x = A ∧ 0 ≤ y ∧ y < (n : Int)
      · rw [if_pos c2, if_pos (by omega)]
      · rw [if_neg c2, if_neg (by omega)]
def eF (t : Int → Int) (n h b : Int) : Int := if b = -1 then h else if sAbs (z32 (z32 (2 * t h) - n)) < sAbs (z32 (z32 (2 * t b) - n)) then h else b
theorem m136 (ph : Bool) (d : Nat) (a x0 p0 y0 : Int) (M : zM) : zEm ph (d + 1) 136 [(27, a, x0), (0, p0, y0)] M = zEv ph d 136 0 [(27, a, x0), (0, p0, y0)] [] M := rfl
theorem e136_0 (ph : Bool) (d : Nat) (L st : List zV) (M : zM) : zEv ph d 136 0 L st M = zcont ph d 136 (zstep ph (zEm ph d) 2 1 0 [1] L st M) := zEv_step rfl
theorem e136_1 (ph : Bool) (d : Nat) (L st : List zV) (M : zM) : zEv ph d 136 1 L st M = zcont ph d 136 (zstep ph (zEm ph d) 42 4 30 [] L st M) := zEv_step rfl
theorem e136_4 (ph : Bool) (d : Nat) (L st : List zV) (M : zM) : zEv ph d 136 4 L st M = zcont ph d 136 (zstep ph (zEm ph d) 2 5 0 [1] L st M) := zEv_step rfl
theorem e136_5 (ph : Bool) (d : Nat) (L st : List zV) (M : zM) : zEv ph d 136 5 L st M = zcont ph d 136 (zstep ph (zEm ph d) 4 6 0 [0] L st M) := zEv_step rfl
theorem e136_6 (ph : Bool) (d : Nat) (L st : List zV) (M : zM) : zEv ph d 136 6 L st M = zcont ph d 136 (zstep ph (zEm ph d) 60 9 0 [27, 1] L st M) := zEv_step rfl
theorem e136_9 (ph : Bool) (d : Nat) (L st : List zV) (M : zM) : zEv ph d 136 9 L st M = zcont ph d 136 (zstep ph (zEm ph d) 49 12 30 [] L st M) := zEv_step rfl
theorem e136_12 (ph : Bool) (d : Nat) (L st : List zV) (M : zM) : zEv ph d 136 12 L st M = zcont ph d 136 (zstep ph (zEm ph d) 2 13 0 [1] L st M) := zEv_step rfl
theorem e136_13 (ph : Bool) (d : Nat) (L st : List zV) (M : zM) : zEv ph d 136 13 L st M = zcont ph d 136 (zstep ph (zEm ph d) 4 14 0 [0] L st M) := zEv_step rfl
theorem e136_14 (ph : Bool) (d : Nat) (L st : List zV) (M : zM) : zEv ph d 136 14 L st M = zcont ph d 136 (zstep ph (zEm ph d) 62 17 0 [27, 0, 1, 10, 940] L st M) := zEv_step rfl
theorem e136_17 (ph : Bool) (d : Nat) (L st : List zV) (M : zM) : zEv ph d 136 17 L st M = zcont ph d 136 (zstep ph (zEm ph d) 84 18 0 [] L st M) := zEv_step rfl
theorem e136_18 (ph : Bool) (d : Nat) (L st : List zV) (M : zM) : zEv ph d 136 18 L st M = zcont ph d 136 (zstep ph (zEm ph d) 49 21 30 [] L st M) := zEv_step rfl
theorem e136_21 (ph : Bool) (d : Nat) (L st : List zV) (M : zM) : zEv ph d 136 21 L st M = zcont ph d 136 (zstep ph (zEm ph d) 4 22 0 [0] L st M) := zEv_step rfl
theorem e136_22 (ph : Bool) (d : Nat) (L st : List zV) (M : zM) : zEv ph d 136 22 L st M = zcont ph d 136 (zstep ph (zEm ph d) 62 25 0 [27, 0, 1, 10, 940] L st M) := zEv_step rfl
theorem e136_25 (ph : Bool) (d : Nat) (L st : List zV) (M : zM) : zEv ph d 136 25 L st M = zcont ph d 136 (zstep ph (zEm ph d) 2 26 0 [1] L st M) := zEv_step rfl
theorem e136_26 (ph : Bool) (d : Nat) (L st : List zV) (M : zM) : zEv ph d 136 26 L st M = zcont ph d 136 (zstep ph (zEm ph d) 85 27 0 [] L st M) := zEv_step rfl
theorem e136_27 (ph : Bool) (d : Nat) (L st : List zV) (M : zM) : zEv ph d 136 27 L st M = zcont ph d 136 (zstep ph (zEm ph d) 52 30 31 [] L st M) := zEv_step rfl
theorem e136_30 (ph : Bool) (d : Nat) (L st : List zV) (M : zM) : zEv ph d 136 30 L st M = zcont ph d 136 (zstep ph (zEm ph d) 0 31 0 [-1] L st M) := zEv_step rfl
theorem e136_31 (ph : Bool) (d : Nat) (L st : List zV) (M : zM) : zEv ph d 136 31 L st M = zcont ph d 136 (zstep ph (zEm ph d) 80 32 0 [] L st M) := zEv_step rfl
theorem m58 (ph : Bool) (d : Nat) (a x0 p0 y0 : Int) (M : zM) : zEm ph (d + 1) 58 [(29, a, x0), (0, p0, y0)] M = zEv ph d 58 0 [(29, a, x0), (0, p0, y0), (3, 0, 0)] [] M := rfl
theorem e58_0 (ph : Bool) (d : Nat) (L st : List zV) (M : zM) : zEv ph d 58 0 L st M = zcont ph d 58 (zstep ph (zEm ph d) 0 1 0 [0] L st M) := zEv_step rfl
theorem e58_1 (ph : Bool) (d : Nat) (L st : List zV) (M : zM) : zEv ph d 58 1 L st M = zcont ph d 58 (zstep ph (zEm ph d) 5 2 0 [2] L st M) := zEv_step rfl
theorem e58_2 (ph : Bool) (d : Nat) (L st : List zV) (M : zM) : zEv ph d 58 2 L st M = zcont ph d 58 (zstep ph (zEm ph d) 2 3 0 [2] L st M) := zEv_step rfl
theorem e58_3 (ph : Bool) (d : Nat) (L st : List zV) (M : zM) : zEv ph d 58 3 L st M = zcont ph d 58 (zstep ph (zEm ph d) 4 4 0 [0] L st M) := zEv_step rfl
theorem e58_4 (ph : Bool) (d : Nat) (L st : List zV) (M : zM) : zEv ph d 58 4 L st M = zcont ph d 58 (zstep ph (zEm ph d) 62 7 0 [29, 2, 30, 28, 0] L st M) := zEv_step rfl
theorem e58_7 (ph : Bool) (d : Nat) (L st : List zV) (M : zM) : zEv ph d 58 7 L st M = zcont ph d 58 (zstep ph (zEm ph d) 60 10 0 [28, 7] L st M) := zEv_step rfl
theorem e58_10 (ph : Bool) (d : Nat) (L st : List zV) (M : zM) : zEv ph d 58 10 L st M = zcont ph d 58 (zstep ph (zEm ph d) 49 13 33 [] L st M) := zEv_step rfl
theorem e58_13 (ph : Bool) (d : Nat) (L st : List zV) (M : zM) : zEv ph d 58 13 L st M = zcont ph d 58 (zstep ph (zEm ph d) 4 14 0 [0] L st M) := zEv_step rfl
theorem e58_14 (ph : Bool) (d : Nat) (L st : List zV) (M : zM) : zEv ph d 58 14 L st M = zcont ph d 58 (zstep ph (zEm ph d) 62 17 0 [29, 11, 79, 10, 10] L st M) := zEv_step rfl
theorem e58_17 (ph : Bool) (d : Nat) (L st : List zV) (M : zM) : zEv ph d 58 17 L st M = zcont ph d 58 (zstep ph (zEm ph d) 2 18 0 [2] L st M) := zEv_step rfl
theorem e58_18 (ph : Bool) (d : Nat) (L st : List zV) (M : zM) : zEv ph d 58 18 L st M = zcont ph d 58 (zstep ph (zEm ph d) 37 19 0 [] L st M) := zEv_step rfl
theorem e58_19 (ph : Bool) (d : Nat) (L st : List zV) (M : zM) : zEv ph d 58 19 L st M = zcont ph d 58 (zstep ph (zEm ph d) 85 20 0 [] L st M) := zEv_step rfl
theorem e58_20 (ph : Bool) (d : Nat) (L st : List zV) (M : zM) : zEv ph d 58 20 L st M = zcont ph d 58 (zstep ph (zEm ph d) 2 21 0 [1] L st M) := zEv_step rfl
theorem e58_21 (ph : Bool) (d : Nat) (L st : List zV) (M : zM) : zEv ph d 58 21 L st M = zcont ph d 58 (zstep ph (zEm ph d) 2 22 0 [2] L st M) := zEv_step rfl
theorem e58_22 (ph : Bool) (d : Nat) (L st : List zV) (M : zM) : zEv ph d 58 22 L st M = zcont ph d 58 (zstep ph (zEm ph d) 20 23 0 [] L st M) := zEv_step rfl
theorem e58_23 (ph : Bool) (d : Nat) (L st : List zV) (M : zM) : zEv ph d 58 23 L st M = zcont ph d 58 (zstep ph (zEm ph d) 0 24 0 [1] L st M) := zEv_step rfl
theorem e58_24 (ph : Bool) (d : Nat) (L st : List zV) (M : zM) : zEv ph d 58 24 L st M = zcont ph d 58 (zstep ph (zEm ph d) 16 25 0 [] L st M) := zEv_step rfl
theorem e58_25 (ph : Bool) (d : Nat) (L st : List zV) (M : zM) : zEv ph d 58 25 L st M = zcont ph d 58 (zstep ph (zEm ph d) 10 26 0 [] L st M) := zEv_step rfl
theorem e58_26 (ph : Bool) (d : Nat) (L st : List zV) (M : zM) : zEv ph d 58 26 L st M = zcont ph d 58 (zstep ph (zEm ph d) 89 27 0 [] L st M) := zEv_step rfl
theorem e58_27 (ph : Bool) (d : Nat) (L st : List zV) (M : zM) : zEv ph d 58 27 L st M = zcont ph d 58 (zstep ph (zEm ph d) 8 30 0 [2, 1] L st M) := zEv_step rfl
theorem e58_30 (ph : Bool) (d : Nat) (L st : List zV) (M : zM) : zEv ph d 58 30 L st M = zcont ph d 58 (zstep ph (zEm ph d) 52 33 2 [] L st M) := zEv_step rfl
theorem e58_33 (ph : Bool) (d : Nat) (L st : List zV) (M : zM) : zEv ph d 58 33 L st M = zcont ph d 58 (zstep ph (zEm ph d) 83 34 0 [] L st M) := zEv_step rfl
theorem m59 (ph : Bool) (d : Nat) (a x0 p0 y0 : Int) (M : zM) : zEm ph (d + 1) 59 [(29, a, x0), (0, p0, y0)] M = zEv ph d 59 0 [(29, a, x0), (0, p0, y0), (3, 0, 0), (3, 0, 0), (3, 0, 0), (3, 0, 0)] [] M := rfl
theorem e59_0 (ph : Bool) (d : Nat) (L st : List zV) (M : zM) : zEv ph d 59 0 L st M = zcont ph d 59 (zstep ph (zEm ph d) 0 1 0 [-1] L st M) := zEv_step rfl
theorem e59_1 (ph : Bool) (d : Nat) (L st : List zV) (M : zM) : zEv ph d 59 1 L st M = zcont ph d 59 (zstep ph (zEm ph d) 5 2 0 [2] L st M) := zEv_step rfl
theorem e59_2 (ph : Bool) (d : Nat) (L st : List zV) (M : zM) : zEv ph d 59 2 L st M = zcont ph d 59 (zstep ph (zEm ph d) 0 3 0 [0] L st M) := zEv_step rfl
theorem e59_3 (ph : Bool) (d : Nat) (L st : List zV) (M : zM) : zEv ph d 59 3 L st M = zcont ph d 59 (zstep ph (zEm ph d) 5 4 0 [3] L st M) := zEv_step rfl
theorem e59_4 (ph : Bool) (d : Nat) (L st : List zV) (M : zM) : zEv ph d 59 4 L st M = zcont ph d 59 (zstep ph (zEm ph d) 0 5 0 [0] L st M) := zEv_step rfl
theorem e59_5 (ph : Bool) (d : Nat) (L st : List zV) (M : zM) : zEv ph d 59 5 L st M = zcont ph d 59 (zstep ph (zEm ph d) 5 7 0 [4] L st M) := zEv_step rfl
theorem e59_7 (ph : Bool) (d : Nat) (L st : List zV) (M : zM) : zEv ph d 59 7 L st M = zcont ph d 59 (zstep ph (zEm ph d) 2 9 0 [4] L st M) := zEv_step rfl
theorem e59_9 (ph : Bool) (d : Nat) (L st : List zV) (M : zM) : zEv ph d 59 9 L st M = zcont ph d 59 (zstep ph (zEm ph d) 4 10 0 [0] L st M) := zEv_step rfl
theorem e59_10 (ph : Bool) (d : Nat) (L st : List zV) (M : zM) : zEv ph d 59 10 L st M = zcont ph d 59 (zstep ph (zEm ph d) 62 13 0 [29, 2, 30, 28, 0] L st M) := zEv_step rfl
theorem e59_13 (ph : Bool) (d : Nat) (L st : List zV) (M : zM) : zEv ph d 59 13 L st M = zcont ph d 59 (zstep ph (zEm ph d) 60 16 0 [28, 7] L st M) := zEv_step rfl
theorem e59_16 (ph : Bool) (d : Nat) (L st : List zV) (M : zM) : zEv ph d 59 16 L st M = zcont ph d 59 (zstep ph (zEm ph d) 49 19 58 [] L st M) := zEv_step rfl
theorem e59_19 (ph : Bool) (d : Nat) (L st : List zV) (M : zM) : zEv ph d 59 19 L st M = zcont ph d 59 (zstep ph (zEm ph d) 0 20 0 [2] L st M) := zEv_step rfl
theorem e59_20 (ph : Bool) (d : Nat) (L st : List zV) (M : zM) : zEv ph d 59 20 L st M = zcont ph d 59 (zstep ph (zEm ph d) 4 21 0 [0] L st M) := zEv_step rfl
theorem e59_21 (ph : Bool) (d : Nat) (L st : List zV) (M : zM) : zEv ph d 59 21 L st M = zcont ph d 59 (zstep ph (zEm ph d) 62 24 0 [29, 11, 79, 10, 10] L st M) := zEv_step rfl
theorem e59_24 (ph : Bool) (d : Nat) (L st : List zV) (M : zM) : zEv ph d 59 24 L st M = zcont ph d 59 (zstep ph (zEm ph d) 2 26 0 [4] L st M) := zEv_step rfl
theorem e59_26 (ph : Bool) (d : Nat) (L st : List zV) (M : zM) : zEv ph d 59 26 L st M = zcont ph d 59 (zstep ph (zEm ph d) 85 27 0 [] L st M) := zEv_step rfl
theorem e59_27 (ph : Bool) (d : Nat) (L st : List zV) (M : zM) : zEv ph d 59 27 L st M = zcont ph d 59 (zstep ph (zEm ph d) 12 28 0 [] L st M) := zEv_step rfl
theorem e59_28 (ph : Bool) (d : Nat) (L st : List zV) (M : zM) : zEv ph d 59 28 L st M = zcont ph d 59 (zstep ph (zEm ph d) 2 29 0 [1] L st M) := zEv_step rfl
theorem e59_29 (ph : Bool) (d : Nat) (L st : List zV) (M : zM) : zEv ph d 59 29 L st M = zcont ph d 59 (zstep ph (zEm ph d) 11 30 0 [] L st M) := zEv_step rfl
theorem e59_30 (ph : Bool) (d : Nat) (L st : List zV) (M : zM) : zEv ph d 59 30 L st M = zcont ph d 59 (zstep ph (zEm ph d) 73 33 0 [] L st M) := zEv_step rfl
theorem e59_33 (ph : Bool) (d : Nat) (L st : List zV) (M : zM) : zEv ph d 59 33 L st M = zcont ph d 59 (zstep ph (zEm ph d) 5 35 0 [5] L st M) := zEv_step rfl
theorem e59_35 (ph : Bool) (d : Nat) (L st : List zV) (M : zM) : zEv ph d 59 35 L st M = zcont ph d 59 (zstep ph (zEm ph d) 2 36 0 [2] L st M) := zEv_step rfl
theorem e59_36 (ph : Bool) (d : Nat) (L st : List zV) (M : zM) : zEv ph d 59 36 L st M = zcont ph d 59 (zstep ph (zEm ph d) 0 37 0 [-1] L st M) := zEv_step rfl
theorem e59_37 (ph : Bool) (d : Nat) (L st : List zV) (M : zM) : zEv ph d 59 37 L st M = zcont ph d 59 (zstep ph (zEm ph d) 46 40 46 [] L st M) := zEv_step rfl
theorem e59_40 (ph : Bool) (d : Nat) (L st : List zV) (M : zM) : zEv ph d 59 40 L st M = zcont ph d 59 (zstep ph (zEm ph d) 2 42 0 [5] L st M) := zEv_step rfl
theorem e59_42 (ph : Bool) (d : Nat) (L st : List zV) (M : zM) : zEv ph d 59 42 L st M = zcont ph d 59 (zstep ph (zEm ph d) 2 43 0 [3] L st M) := zEv_step rfl
theorem e59_43 (ph : Bool) (d : Nat) (L st : List zV) (M : zM) : zEv ph d 59 43 L st M = zcont ph d 59 (zstep ph (zEm ph d) 49 46 52 [] L st M) := zEv_step rfl
theorem e59_46 (ph : Bool) (d : Nat) (L st : List zV) (M : zM) : zEv ph d 59 46 L st M = zcont ph d 59 (zstep ph (zEm ph d) 2 48 0 [4] L st M) := zEv_step rfl
theorem e59_48 (ph : Bool) (d : Nat) (L st : List zV) (M : zM) : zEv ph d 59 48 L st M = zcont ph d 59 (zstep ph (zEm ph d) 5 49 0 [2] L st M) := zEv_step rfl
theorem e59_49 (ph : Bool) (d : Nat) (L st : List zV) (M : zM) : zEv ph d 59 49 L st M = zcont ph d 59 (zstep ph (zEm ph d) 2 51 0 [5] L st M) := zEv_step rfl
theorem e59_51 (ph : Bool) (d : Nat) (L st : List zV) (M : zM) : zEv ph d 59 51 L st M = zcont ph d 59 (zstep ph (zEm ph d) 5 52 0 [3] L st M) := zEv_step rfl
theorem e59_52 (ph : Bool) (d : Nat) (L st : List zV) (M : zM) : zEv ph d 59 52 L st M = zcont ph d 59 (zstep ph (zEm ph d) 8 55 0 [4, 1] L st M) := zEv_step rfl
theorem e59_55 (ph : Bool) (d : Nat) (L st : List zV) (M : zM) : zEv ph d 59 55 L st M = zcont ph d 59 (zstep ph (zEm ph d) 52 58 7 [] L st M) := zEv_step rfl
theorem e59_58 (ph : Bool) (d : Nat) (L st : List zV) (M : zM) : zEv ph d 59 58 L st M = zcont ph d 59 (zstep ph (zEm ph d) 2 59 0 [2] L st M) := zEv_step rfl
theorem e59_59 (ph : Bool) (d : Nat) (L st : List zV) (M : zM) : zEv ph d 59 59 L st M = zcont ph d 59 (zstep ph (zEm ph d) 80 60 0 [] L st M) := zEv_step rfl
theorem m32 (ph : Bool) (d : Nat) (a x0 : Int) (M : zM) : zEm ph (d + 1) 32 [(29, a, x0)] M = zEv ph d 32 0 [(29, a, x0), (3, 0, 0), (3, 0, 0), (3, 0, 0), (3, 0, 0), (3, 0, 0), (3, 0, 0)] [] M := rfl
theorem e32_0 (ph : Bool) (d : Nat) (L st : List zV) (M : zM) : zEv ph d 32 0 L st M = zcont ph d 32 (zstep ph (zEm ph d) 4 1 0 [0] L st M) := zEv_step rfl
theorem e32_1 (ph : Bool) (d : Nat) (L st : List zV) (M : zM) : zEv ph d 32 1 L st M = zcont ph d 32 (zstep ph (zEm ph d) 62 4 0 [29, 1, 2, 27, 0] L st M) := zEv_step rfl
theorem e32_4 (ph : Bool) (d : Nat) (L st : List zV) (M : zM) : zEv ph d 32 4 L st M = zcont ph d 32 (zstep ph (zEm ph d) 60 7 0 [27, 1] L st M) := zEv_step rfl
theorem e32_7 (ph : Bool) (d : Nat) (L st : List zV) (M : zM) : zEv ph d 32 7 L st M = zcont ph d 32 (zstep ph (zEm ph d) 0 8 0 [2] L st M) := zEv_step rfl
theorem e32_8 (ph : Bool) (d : Nat) (L st : List zV) (M : zM) : zEv ph d 32 8 L st M = zcont ph d 32 (zstep ph (zEm ph d) 47 11 15 [] L st M) := zEv_step rfl
theorem e32_11 (ph : Bool) (d : Nat) (L st : List zV) (M : zM) : zEv ph d 32 11 L st M = zcont ph d 32 (zstep ph (zEm ph d) 0 12 0 [1] L st M) := zEv_step rfl
theorem e32_12 (ph : Bool) (d : Nat) (L st : List zV) (M : zM) : zEv ph d 32 12 L st M = zcont ph d 32 (zstep ph (zEm ph d) 52 15 16 [] L st M) := zEv_step rfl
theorem e32_15 (ph : Bool) (d : Nat) (L st : List zV) (M : zM) : zEv ph d 32 15 L st M = zcont ph d 32 (zstep ph (zEm ph d) 0 16 0 [0] L st M) := zEv_step rfl
theorem e32_16 (ph : Bool) (d : Nat) (L st : List zV) (M : zM) : zEv ph d 32 16 L st M = zcont ph d 32 (zstep ph (zEm ph d) 5 17 0 [1] L st M) := zEv_step rfl
theorem e32_17 (ph : Bool) (d : Nat) (L st : List zV) (M : zM) : zEv ph d 32 17 L st M = zcont ph d 32 (zstep ph (zEm ph d) 4 18 0 [0] L st M) := zEv_step rfl
theorem e32_18 (ph : Bool) (d : Nat) (L st : List zV) (M : zM) : zEv ph d 32 18 L st M = zcont ph d 32 (zstep ph (zEm ph d) 62 21 0 [29, 1, 2, 27, 0] L st M) := zEv_step rfl
theorem e32_21 (ph : Bool) (d : Nat) (L st : List zV) (M : zM) : zEv ph d 32 21 L st M = zcont ph d 32 (zstep ph (zEm ph d) 0 22 0 [0] L st M) := zEv_step rfl
theorem e32_22 (ph : Bool) (d : Nat) (L st : List zV) (M : zM) : zEv ph d 32 22 L st M = zcont ph d 32 (zstep ph (zEm ph d) 70 25 136 [2, 1, 27] L st M) := zEv_step rfl
theorem e32_25 (ph : Bool) (d : Nat) (L st : List zV) (M : zM) : zEv ph d 32 25 L st M = zcont ph d 32 (zstep ph (zEm ph d) 5 26 0 [2] L st M) := zEv_step rfl
theorem e32_26 (ph : Bool) (d : Nat) (L st : List zV) (M : zM) : zEv ph d 32 26 L st M = zcont ph d 32 (zstep ph (zEm ph d) 4 27 0 [0] L st M) := zEv_step rfl
theorem e32_27 (ph : Bool) (d : Nat) (L st : List zV) (M : zM) : zEv ph d 32 27 L st M = zcont ph d 32 (zstep ph (zEm ph d) 62 30 0 [29, 1, 2, 27, 0] L st M) := zEv_step rfl
theorem e32_30 (ph : Bool) (d : Nat) (L st : List zV) (M : zM) : zEv ph d 32 30 L st M = zcont ph d 32 (zstep ph (zEm ph d) 0 31 0 [1] L st M) := zEv_step rfl
theorem e32_31 (ph : Bool) (d : Nat) (L st : List zV) (M : zM) : zEv ph d 32 31 L st M = zcont ph d 32 (zstep ph (zEm ph d) 70 34 136 [2, 1, 27] L st M) := zEv_step rfl
theorem e32_34 (ph : Bool) (d : Nat) (L st : List zV) (M : zM) : zEv ph d 32 34 L st M = zcont ph d 32 (zstep ph (zEm ph d) 5 35 0 [3] L st M) := zEv_step rfl
theorem e32_35 (ph : Bool) (d : Nat) (L st : List zV) (M : zM) : zEv ph d 32 35 L st M = zcont ph d 32 (zstep ph (zEm ph d) 4 36 0 [0] L st M) := zEv_step rfl
theorem e32_36 (ph : Bool) (d : Nat) (L st : List zV) (M : zM) : zEv ph d 32 36 L st M = zcont ph d 32 (zstep ph (zEm ph d) 62 39 0 [29, 1, 2, 27, 0] L st M) := zEv_step rfl
theorem e32_39 (ph : Bool) (d : Nat) (L st : List zV) (M : zM) : zEv ph d 32 39 L st M = zcont ph d 32 (zstep ph (zEm ph d) 0 40 0 [0] L st M) := zEv_step rfl
theorem e32_40 (ph : Bool) (d : Nat) (L st : List zV) (M : zM) : zEv ph d 32 40 L st M = zcont ph d 32 (zstep ph (zEm ph d) 65 43 0 [27, 1] L st M) := zEv_step rfl
theorem e32_43 (ph : Bool) (d : Nat) (L st : List zV) (M : zM) : zEv ph d 32 43 L st M = zcont ph d 32 (zstep ph (zEm ph d) 2 44 0 [1] L st M) := zEv_step rfl
theorem e32_44 (ph : Bool) (d : Nat) (L st : List zV) (M : zM) : zEv ph d 32 44 L st M = zcont ph d 32 (zstep ph (zEm ph d) 41 47 49 [] L st M) := zEv_step rfl
theorem e32_47 (ph : Bool) (d : Nat) (L st : List zV) (M : zM) : zEv ph d 32 47 L st M = zcont ph d 32 (zstep ph (zEm ph d) 0 48 0 [-1] L st M) := zEv_step rfl
theorem e32_48 (ph : Bool) (d : Nat) (L st : List zV) (M : zM) : zEv ph d 32 48 L st M = zcont ph d 32 (zstep ph (zEm ph d) 80 49 0 [] L st M) := zEv_step rfl
theorem e32_49 (ph : Bool) (d : Nat) (L st : List zV) (M : zM) : zEv ph d 32 49 L st M = zcont ph d 32 (zstep ph (zEm ph d) 0 50 0 [0] L st M) := zEv_step rfl
theorem e32_50 (ph : Bool) (d : Nat) (L st : List zV) (M : zM) : zEv ph d 32 50 L st M = zcont ph d 32 (zstep ph (zEm ph d) 5 52 0 [4] L st M) := zEv_step rfl
theorem e32_52 (ph : Bool) (d : Nat) (L st : List zV) (M : zM) : zEv ph d 32 52 L st M = zcont ph d 32 (zstep ph (zEm ph d) 2 54 0 [4] L st M) := zEv_step rfl
theorem e32_54 (ph : Bool) (d : Nat) (L st : List zV) (M : zM) : zEv ph d 32 54 L st M = zcont ph d 32 (zstep ph (zEm ph d) 4 55 0 [0] L st M) := zEv_step rfl
theorem e32_55 (ph : Bool) (d : Nat) (L st : List zV) (M : zM) : zEv ph d 32 55 L st M = zcont ph d 32 (zstep ph (zEm ph d) 62 58 0 [29, 2, 30, 28, 0] L st M) := zEv_step rfl
theorem e32_58 (ph : Bool) (d : Nat) (L st : List zV) (M : zM) : zEv ph d 32 58 L st M = zcont ph d 32 (zstep ph (zEm ph d) 60 61 0 [28, 7] L st M) := zEv_step rfl
theorem e32_61 (ph : Bool) (d : Nat) (L st : List zV) (M : zM) : zEv ph d 32 61 L st M = zcont ph d 32 (zstep ph (zEm ph d) 49 64 78 [] L st M) := zEv_step rfl
theorem e32_64 (ph : Bool) (d : Nat) (L st : List zV) (M : zM) : zEv ph d 32 64 L st M = zcont ph d 32 (zstep ph (zEm ph d) 4 65 0 [0] L st M) := zEv_step rfl
theorem e32_65 (ph : Bool) (d : Nat) (L st : List zV) (M : zM) : zEv ph d 32 65 L st M = zcont ph d 32 (zstep ph (zEm ph d) 62 68 0 [29, 11, 79, 10, 10] L st M) := zEv_step rfl
theorem e32_68 (ph : Bool) (d : Nat) (L st : List zV) (M : zM) : zEv ph d 32 68 L st M = zcont ph d 32 (zstep ph (zEm ph d) 2 70 0 [4] L st M) := zEv_step rfl
theorem e32_70 (ph : Bool) (d : Nat) (L st : List zV) (M : zM) : zEv ph d 32 70 L st M = zcont ph d 32 (zstep ph (zEm ph d) 0 71 0 [0] L st M) := zEv_step rfl
theorem e32_71 (ph : Bool) (d : Nat) (L st : List zV) (M : zM) : zEv ph d 32 71 L st M = zcont ph d 32 (zstep ph (zEm ph d) 89 72 0 [] L st M) := zEv_step rfl
theorem e32_72 (ph : Bool) (d : Nat) (L st : List zV) (M : zM) : zEv ph d 32 72 L st M = zcont ph d 32 (zstep ph (zEm ph d) 8 75 0 [4, 1] L st M) := zEv_step rfl
theorem e32_75 (ph : Bool) (d : Nat) (L st : List zV) (M : zM) : zEv ph d 32 75 L st M = zcont ph d 32 (zstep ph (zEm ph d) 52 78 52 [] L st M) := zEv_step rfl
theorem e32_78 (ph : Bool) (d : Nat) (L st : List zV) (M : zM) : zEv ph d 32 78 L st M = zcont ph d 32 (zstep ph (zEm ph d) 0 79 0 [0] L st M) := zEv_step rfl
theorem e32_79 (ph : Bool) (d : Nat) (L st : List zV) (M : zM) : zEv ph d 32 79 L st M = zcont ph d 32 (zstep ph (zEm ph d) 5 81 0 [4] L st M) := zEv_step rfl
theorem e32_81 (ph : Bool) (d : Nat) (L st : List zV) (M : zM) : zEv ph d 32 81 L st M = zcont ph d 32 (zstep ph (zEm ph d) 4 82 0 [0] L st M) := zEv_step rfl
theorem e32_82 (ph : Bool) (d : Nat) (L st : List zV) (M : zM) : zEv ph d 32 82 L st M = zcont ph d 32 (zstep ph (zEm ph d) 62 85 0 [29, 2, 30, 28, 0] L st M) := zEv_step rfl
theorem e32_85 (ph : Bool) (d : Nat) (L st : List zV) (M : zM) : zEv ph d 32 85 L st M = zcont ph d 32 (zstep ph (zEm ph d) 70 88 158 [1, 1, 28] L st M) := zEv_step rfl
theorem e32_88 (ph : Bool) (d : Nat) (L st : List zV) (M : zM) : zEv ph d 32 88 L st M = zcont ph d 32 (zstep ph (zEm ph d) 5 90 0 [5] L st M) := zEv_step rfl
theorem e32_90 (ph : Bool) (d : Nat) (L st : List zV) (M : zM) : zEv ph d 32 90 L st M = zcont ph d 32 (zstep ph (zEm ph d) 0 91 0 [0] L st M) := zEv_step rfl
theorem e32_91 (ph : Bool) (d : Nat) (L st : List zV) (M : zM) : zEv ph d 32 91 L st M = zcont ph d 32 (zstep ph (zEm ph d) 5 93 0 [6] L st M) := zEv_step rfl
theorem e32_93 (ph : Bool) (d : Nat) (L st : List zV) (M : zM) : zEv ph d 32 93 L st M = zcont ph d 32 (zstep ph (zEm ph d) 2 95 0 [6] L st M) := zEv_step rfl
theorem e32_95 (ph : Bool) (d : Nat) (L st : List zV) (M : zM) : zEv ph d 32 95 L st M = zcont ph d 32 (zstep ph (zEm ph d) 4 96 0 [0] L st M) := zEv_step rfl
theorem e32_96 (ph : Bool) (d : Nat) (L st : List zV) (M : zM) : zEv ph d 32 96 L st M = zcont ph d 32 (zstep ph (zEm ph d) 62 99 0 [29, 2, 30, 28, 0] L st M) := zEv_step rfl
theorem e32_99 (ph : Bool) (d : Nat) (L st : List zV) (M : zM) : zEv ph d 32 99 L st M = zcont ph d 32 (zstep ph (zEm ph d) 70 102 158 [1, 1, 28] L st M) := zEv_step rfl
theorem e32_102 (ph : Bool) (d : Nat) (L st : List zV) (M : zM) : zEv ph d 32 102 L st M = zcont ph d 32 (zstep ph (zEm ph d) 50 105 150 [] L st M) := zEv_step rfl
theorem e32_105 (ph : Bool) (d : Nat) (L st : List zV) (M : zM) : zEv ph d 32 105 L st M = zcont ph d 32 (zstep ph (zEm ph d) 4 106 0 [0] L st M) := zEv_step rfl
theorem e32_106 (ph : Bool) (d : Nat) (L st : List zV) (M : zM) : zEv ph d 32 106 L st M = zcont ph d 32 (zstep ph (zEm ph d) 62 109 0 [29, 3, 37, 26, 0] L st M) := zEv_step rfl
theorem e32_109 (ph : Bool) (d : Nat) (L st : List zV) (M : zM) : zEv ph d 32 109 L st M = zcont ph d 32 (zstep ph (zEm ph d) 4 110 0 [0] L st M) := zEv_step rfl
theorem e32_110 (ph : Bool) (d : Nat) (L st : List zV) (M : zM) : zEv ph d 32 110 L st M = zcont ph d 32 (zstep ph (zEm ph d) 62 113 0 [29, 2, 30, 28, 0] L st M) := zEv_step rfl
theorem e32_113 (ph : Bool) (d : Nat) (L st : List zV) (M : zM) : zEv ph d 32 113 L st M = zcont ph d 32 (zstep ph (zEm ph d) 2 115 0 [6] L st M) := zEv_step rfl
theorem e32_115 (ph : Bool) (d : Nat) (L st : List zV) (M : zM) : zEv ph d 32 115 L st M = zcont ph d 32 (zstep ph (zEm ph d) 0 116 0 [0] L st M) := zEv_step rfl
theorem e32_116 (ph : Bool) (d : Nat) (L st : List zV) (M : zM) : zEv ph d 32 116 L st M = zcont ph d 32 (zstep ph (zEm ph d) 70 119 119 [4, 1, 26] L st M) := zEv_step rfl
theorem e32_119 (ph : Bool) (d : Nat) (L st : List zV) (M : zM) : zEv ph d 32 119 L st M = zcont ph d 32 (zstep ph (zEm ph d) 2 120 0 [2] L st M) := zEv_step rfl
theorem e32_120 (ph : Bool) (d : Nat) (L st : List zV) (M : zM) : zEv ph d 32 120 L st M = zcont ph d 32 (zstep ph (zEm ph d) 11 121 0 [] L st M) := zEv_step rfl
theorem e32_121 (ph : Bool) (d : Nat) (L st : List zV) (M : zM) : zEv ph d 32 121 L st M = zcont ph d 32 (zstep ph (zEm ph d) 73 124 0 [] L st M) := zEv_step rfl
theorem e32_124 (ph : Bool) (d : Nat) (L st : List zV) (M : zM) : zEv ph d 32 124 L st M = zcont ph d 32 (zstep ph (zEm ph d) 2 125 0 [3] L st M) := zEv_step rfl
theorem e32_125 (ph : Bool) (d : Nat) (L st : List zV) (M : zM) : zEv ph d 32 125 L st M = zcont ph d 32 (zstep ph (zEm ph d) 50 128 144 [] L st M) := zEv_step rfl
theorem e32_128 (ph : Bool) (d : Nat) (L st : List zV) (M : zM) : zEv ph d 32 128 L st M = zcont ph d 32 (zstep ph (zEm ph d) 8 131 0 [4, 1] L st M) := zEv_step rfl
theorem e32_131 (ph : Bool) (d : Nat) (L st : List zV) (M : zM) : zEv ph d 32 131 L st M = zcont ph d 32 (zstep ph (zEm ph d) 2 133 0 [5] L st M) := zEv_step rfl
theorem e32_133 (ph : Bool) (d : Nat) (L st : List zV) (M : zM) : zEv ph d 32 133 L st M = zcont ph d 32 (zstep ph (zEm ph d) 2 135 0 [6] L st M) := zEv_step rfl
theorem e32_135 (ph : Bool) (d : Nat) (L st : List zV) (M : zM) : zEv ph d 32 135 L st M = zcont ph d 32 (zstep ph (zEm ph d) 16 136 0 [] L st M) := zEv_step rfl
theorem e32_136 (ph : Bool) (d : Nat) (L st : List zV) (M : zM) : zEv ph d 32 136 L st M = zcont ph d 32 (zstep ph (zEm ph d) 5 138 0 [5] L st M) := zEv_step rfl
theorem e32_138 (ph : Bool) (d : Nat) (L st : List zV) (M : zM) : zEv ph d 32 138 L st M = zcont ph d 32 (zstep ph (zEm ph d) 4 139 0 [0] L st M) := zEv_step rfl
theorem e32_139 (ph : Bool) (d : Nat) (L st : List zV) (M : zM) : zEv ph d 32 139 L st M = zcont ph d 32 (zstep ph (zEm ph d) 2 141 0 [6] L st M) := zEv_step rfl
theorem e32_141 (ph : Bool) (d : Nat) (L st : List zV) (M : zM) : zEv ph d 32 141 L st M = zcont ph d 32 (zstep ph (zEm ph d) 70 144 58 [2, 0, 29] L st M) := zEv_step rfl
theorem e32_144 (ph : Bool) (d : Nat) (L st : List zV) (M : zM) : zEv ph d 32 144 L st M = zcont ph d 32 (zstep ph (zEm ph d) 8 147 0 [6, 1] L st M) := zEv_step rfl
theorem e32_147 (ph : Bool) (d : Nat) (L st : List zV) (M : zM) : zEv ph d 32 147 L st M = zcont ph d 32 (zstep ph (zEm ph d) 52 150 93 [] L st M) := zEv_step rfl
theorem e32_150 (ph : Bool) (d : Nat) (L st : List zV) (M : zM) : zEv ph d 32 150 L st M = zcont ph d 32 (zstep ph (zEm ph d) 2 152 0 [4] L st M) := zEv_step rfl
theorem e32_152 (ph : Bool) (d : Nat) (L st : List zV) (M : zM) : zEv ph d 32 152 L st M = zcont ph d 32 (zstep ph (zEm ph d) 45 155 177 [] L st M) := zEv_step rfl
theorem e32_155 (ph : Bool) (d : Nat) (L st : List zV) (M : zM) : zEv ph d 32 155 L st M = zcont ph d 32 (zstep ph (zEm ph d) 4 156 0 [0] L st M) := zEv_step rfl
theorem e32_156 (ph : Bool) (d : Nat) (L st : List zV) (M : zM) : zEv ph d 32 156 L st M = zcont ph d 32 (zstep ph (zEm ph d) 62 159 0 [29, 5, 51, 22, 0] L st M) := zEv_step rfl
theorem e32_159 (ph : Bool) (d : Nat) (L st : List zV) (M : zM) : zEv ph d 32 159 L st M = zcont ph d 32 (zstep ph (zEm ph d) 2 161 0 [5] L st M) := zEv_step rfl
theorem e32_161 (ph : Bool) (d : Nat) (L st : List zV) (M : zM) : zEv ph d 32 161 L st M = zcont ph d 32 (zstep ph (zEm ph d) 65 164 0 [22, 7] L st M) := zEv_step rfl
theorem e32_164 (ph : Bool) (d : Nat) (L st : List zV) (M : zM) : zEv ph d 32 164 L st M = zcont ph d 32 (zstep ph (zEm ph d) 4 165 0 [0] L st M) := zEv_step rfl
theorem e32_165 (ph : Bool) (d : Nat) (L st : List zV) (M : zM) : zEv ph d 32 165 L st M = zcont ph d 32 (zstep ph (zEm ph d) 62 168 0 [29, 5, 51, 22, 0] L st M) := zEv_step rfl
theorem e32_168 (ph : Bool) (d : Nat) (L st : List zV) (M : zM) : zEv ph d 32 168 L st M = zcont ph d 32 (zstep ph (zEm ph d) 4 169 0 [0] L st M) := zEv_step rfl
theorem e32_169 (ph : Bool) (d : Nat) (L st : List zV) (M : zM) : zEv ph d 32 169 L st M = zcont ph d 32 (zstep ph (zEm ph d) 2 171 0 [4] L st M) := zEv_step rfl
theorem e32_171 (ph : Bool) (d : Nat) (L st : List zV) (M : zM) : zEv ph d 32 171 L st M = zcont ph d 32 (zstep ph (zEm ph d) 70 174 59 [2, 1, 29] L st M) := zEv_step rfl
theorem e32_174 (ph : Bool) (d : Nat) (L st : List zV) (M : zM) : zEv ph d 32 174 L st M = zcont ph d 32 (zstep ph (zEm ph d) 65 177 0 [22, 8] L st M) := zEv_step rfl
theorem e32_177 (ph : Bool) (d : Nat) (L st : List zV) (M : zM) : zEv ph d 32 177 L st M = zcont ph d 32 (zstep ph (zEm ph d) 2 179 0 [4] L st M) := zEv_step rfl
theorem e32_179 (ph : Bool) (d : Nat) (L st : List zV) (M : zM) : zEv ph d 32 179 L st M = zcont ph d 32 (zstep ph (zEm ph d) 80 180 0 [] L st M) := zEv_step rfl
theorem m167 (ph : Bool) (d : Nat) (a x0 : Int) (M : zM) : zEm ph (d + 1) 167 [(30, a, x0)] M = zEv ph d 167 0 [(30, a, x0), (3, 0, 0)] [] M := rfl
theorem e167_0 (ph : Bool) (d : Nat) (L st : List zV) (M : zM) : zEv ph d 167 0 L st M = zcont ph d 167 (zstep ph (zEm ph d) 4 1 0 [0] L st M) := zEv_step rfl
theorem e167_1 (ph : Bool) (d : Nat) (L st : List zV) (M : zM) : zEv ph d 167 1 L st M = zcont ph d 167 (zstep ph (zEm ph d) 60 4 0 [30, 2] L st M) := zEv_step rfl
theorem e167_4 (ph : Bool) (d : Nat) (L st : List zV) (M : zM) : zEv ph d 167 4 L st M = zcont ph d 167 (zstep ph (zEm ph d) 5 5 0 [1] L st M) := zEv_step rfl
theorem e167_5 (ph : Bool) (d : Nat) (L st : List zV) (M : zM) : zEv ph d 167 5 L st M = zcont ph d 167 (zstep ph (zEm ph d) 4 6 0 [0] L st M) := zEv_step rfl
theorem e167_6 (ph : Bool) (d : Nat) (L st : List zV) (M : zM) : zEv ph d 167 6 L st M = zcont ph d 167 (zstep ph (zEm ph d) 0 7 0 [0] L st M) := zEv_step rfl
theorem e167_7 (ph : Bool) (d : Nat) (L st : List zV) (M : zM) : zEv ph d 167 7 L st M = zcont ph d 167 (zstep ph (zEm ph d) 65 10 0 [30, 2] L st M) := zEv_step rfl
theorem e167_10 (ph : Bool) (d : Nat) (L st : List zV) (M : zM) : zEv ph d 167 10 L st M = zcont ph d 167 (zstep ph (zEm ph d) 2 11 0 [1] L st M) := zEv_step rfl
theorem e167_11 (ph : Bool) (d : Nat) (L st : List zV) (M : zM) : zEv ph d 167 11 L st M = zcont ph d 167 (zstep ph (zEm ph d) 80 12 0 [] L st M) := zEv_step rfl
theorem m260 (ph : Bool) (d : Nat) (a x0 : Int) (M : zM) : zEm ph (d + 1) 260 [(30, a, x0)] M = zEv ph d 260 0 [(30, a, x0), (3, 0, 0), (3, 0, 0), (3, 0, 0), (3, 0, 0)] [] M := rfl
theorem e260_0 (ph : Bool) (d : Nat) (L st : List zV) (M : zM) : zEv ph d 260 0 L st M = zcont ph d 260 (zstep ph (zEm ph d) 4 1 0 [0] L st M) := zEv_step rfl
theorem e260_1 (ph : Bool) (d : Nat) (L st : List zV) (M : zM) : zEv ph d 260 1 L st M = zcont ph d 260 (zstep ph (zEm ph d) 0 2 0 [0] L st M) := zEv_step rfl
theorem e260_2 (ph : Bool) (d : Nat) (L st : List zV) (M : zM) : zEv ph d 260 2 L st M = zcont ph d 260 (zstep ph (zEm ph d) 65 5 0 [30, 0] L st M) := zEv_step rfl
theorem e260_5 (ph : Bool) (d : Nat) (L st : List zV) (M : zM) : zEv ph d 260 5 L st M = zcont ph d 260 (zstep ph (zEm ph d) 4 6 0 [0] L st M) := zEv_step rfl
theorem e260_6 (ph : Bool) (d : Nat) (L st : List zV) (M : zM) : zEv ph d 260 6 L st M = zcont ph d 260 (zstep ph (zEm ph d) 70 9 167 [1, 1, 30] L st M) := zEv_step rfl
theorem e260_9 (ph : Bool) (d : Nat) (L st : List zV) (M : zM) : zEv ph d 260 9 L st M = zcont ph d 260 (zstep ph (zEm ph d) 0 10 0 [2] L st M) := zEv_step rfl
theorem e260_10 (ph : Bool) (d : Nat) (L st : List zV) (M : zM) : zEv ph d 260 10 L st M = zcont ph d 260 (zstep ph (zEm ph d) 46 13 15 [] L st M) := zEv_step rfl
theorem e260_13 (ph : Bool) (d : Nat) (L st : List zV) (M : zM) : zEv ph d 260 13 L st M = zcont ph d 260 (zstep ph (zEm ph d) 0 14 0 [-1] L st M) := zEv_step rfl
theorem e260_14 (ph : Bool) (d : Nat) (L st : List zV) (M : zM) : zEv ph d 260 14 L st M = zcont ph d 260 (zstep ph (zEm ph d) 80 15 0 [] L st M) := zEv_step rfl
theorem e260_15 (ph : Bool) (d : Nat) (L st : List zV) (M : zM) : zEv ph d 260 15 L st M = zcont ph d 260 (zstep ph (zEm ph d) 0 16 0 [0] L st M) := zEv_step rfl
theorem e260_16 (ph : Bool) (d : Nat) (L st : List zV) (M : zM) : zEv ph d 260 16 L st M = zcont ph d 260 (zstep ph (zEm ph d) 5 17 0 [1] L st M) := zEv_step rfl
theorem e260_17 (ph : Bool) (d : Nat) (L st : List zV) (M : zM) : zEv ph d 260 17 L st M = zcont ph d 260 (zstep ph (zEm ph d) 0 18 0 [1] L st M) := zEv_step rfl
theorem e260_18 (ph : Bool) (d : Nat) (L st : List zV) (M : zM) : zEv ph d 260 18 L st M = zcont ph d 260 (zstep ph (zEm ph d) 4 19 0 [0] L st M) := zEv_step rfl
theorem e260_19 (ph : Bool) (d : Nat) (L st : List zV) (M : zM) : zEv ph d 260 19 L st M = zcont ph d 260 (zstep ph (zEm ph d) 62 22 0 [30, 14, 2, 10, 368] L st M) := zEv_step rfl
theorem e260_22 (ph : Bool) (d : Nat) (L st : List zV) (M : zM) : zEv ph d 260 22 L st M = zcont ph d 260 (zstep ph (zEm ph d) 0 23 0 [1] L st M) := zEv_step rfl
theorem e260_23 (ph : Bool) (d : Nat) (L st : List zV) (M : zM) : zEv ph d 260 23 L st M = zcont ph d 260 (zstep ph (zEm ph d) 85 24 0 [] L st M) := zEv_step rfl
theorem e260_24 (ph : Bool) (d : Nat) (L st : List zV) (M : zM) : zEv ph d 260 24 L st M = zcont ph d 260 (zstep ph (zEm ph d) 19 25 0 [] L st M) := zEv_step rfl
theorem e260_25 (ph : Bool) (d : Nat) (L st : List zV) (M : zM) : zEv ph d 260 25 L st M = zcont ph d 260 (zstep ph (zEm ph d) 0 26 0 [1] L st M) := zEv_step rfl
theorem e260_26 (ph : Bool) (d : Nat) (L st : List zV) (M : zM) : zEv ph d 260 26 L st M = zcont ph d 260 (zstep ph (zEm ph d) 11 27 0 [] L st M) := zEv_step rfl
theorem e260_27 (ph : Bool) (d : Nat) (L st : List zV) (M : zM) : zEv ph d 260 27 L st M = zcont ph d 260 (zstep ph (zEm ph d) 5 28 0 [2] L st M) := zEv_step rfl
theorem e260_28 (ph : Bool) (d : Nat) (L st : List zV) (M : zM) : zEv ph d 260 28 L st M = zcont ph d 260 (zstep ph (zEm ph d) 0 29 0 [0] L st M) := zEv_step rfl
theorem e260_29 (ph : Bool) (d : Nat) (L st : List zV) (M : zM) : zEv ph d 260 29 L st M = zcont ph d 260 (zstep ph (zEm ph d) 5 30 0 [3] L st M) := zEv_step rfl
theorem e260_30 (ph : Bool) (d : Nat) (L st : List zV) (M : zM) : zEv ph d 260 30 L st M = zcont ph d 260 (zstep ph (zEm ph d) 2 31 0 [3] L st M) := zEv_step rfl
theorem e260_31 (ph : Bool) (d : Nat) (L st : List zV) (M : zM) : zEv ph d 260 31 L st M = zcont ph d 260 (zstep ph (zEm ph d) 0 33 0 [10] L st M) := zEv_step rfl
theorem e260_33 (ph : Bool) (d : Nat) (L st : List zV) (M : zM) : zEv ph d 260 33 L st M = zcont ph d 260 (zstep ph (zEm ph d) 49 36 49 [] L st M) := zEv_step rfl
theorem e260_36 (ph : Bool) (d : Nat) (L st : List zV) (M : zM) : zEv ph d 260 36 L st M = zcont ph d 260 (zstep ph (zEm ph d) 4 37 0 [0] L st M) := zEv_step rfl
theorem e260_37 (ph : Bool) (d : Nat) (L st : List zV) (M : zM) : zEv ph d 260 37 L st M = zcont ph d 260 (zstep ph (zEm ph d) 62 40 0 [30, 35, 17, 10, 10] L st M) := zEv_step rfl
theorem e260_40 (ph : Bool) (d : Nat) (L st : List zV) (M : zM) : zEv ph d 260 40 L st M = zcont ph d 260 (zstep ph (zEm ph d) 2 41 0 [3] L st M) := zEv_step rfl
theorem e260_41 (ph : Bool) (d : Nat) (L st : List zV) (M : zM) : zEv ph d 260 41 L st M = zcont ph d 260 (zstep ph (zEm ph d) 0 42 0 [0] L st M) := zEv_step rfl
theorem e260_42 (ph : Bool) (d : Nat) (L st : List zV) (M : zM) : zEv ph d 260 42 L st M = zcont ph d 260 (zstep ph (zEm ph d) 89 43 0 [] L st M) := zEv_step rfl
theorem e260_43 (ph : Bool) (d : Nat) (L st : List zV) (M : zM) : zEv ph d 260 43 L st M = zcont ph d 260 (zstep ph (zEm ph d) 8 46 0 [3, 1] L st M) := zEv_step rfl
theorem e260_46 (ph : Bool) (d : Nat) (L st : List zV) (M : zM) : zEv ph d 260 46 L st M = zcont ph d 260 (zstep ph (zEm ph d) 52 49 30 [] L st M) := zEv_step rfl
theorem e260_49 (ph : Bool) (d : Nat) (L st : List zV) (M : zM) : zEv ph d 260 49 L st M = zcont ph d 260 (zstep ph (zEm ph d) 0 50 0 [0] L st M) := zEv_step rfl
theorem e260_50 (ph : Bool) (d : Nat) (L st : List zV) (M : zM) : zEv ph d 260 50 L st M = zcont ph d 260 (zstep ph (zEm ph d) 5 51 0 [3] L st M) := zEv_step rfl
theorem e260_51 (ph : Bool) (d : Nat) (L st : List zV) (M : zM) : zEv ph d 260 51 L st M = zcont ph d 260 (zstep ph (zEm ph d) 2 52 0 [3] L st M) := zEv_step rfl
theorem e260_52 (ph : Bool) (d : Nat) (L st : List zV) (M : zM) : zEv ph d 260 52 L st M = zcont ph d 260 (zstep ph (zEm ph d) 0 53 0 [1] L st M) := zEv_step rfl
theorem e260_53 (ph : Bool) (d : Nat) (L st : List zV) (M : zM) : zEv ph d 260 53 L st M = zcont ph d 260 (zstep ph (zEm ph d) 4 54 0 [0] L st M) := zEv_step rfl
theorem e260_54 (ph : Bool) (d : Nat) (L st : List zV) (M : zM) : zEv ph d 260 54 L st M = zcont ph d 260 (zstep ph (zEm ph d) 62 57 0 [30, 14, 2, 10, 368] L st M) := zEv_step rfl
theorem e260_57 (ph : Bool) (d : Nat) (L st : List zV) (M : zM) : zEv ph d 260 57 L st M = zcont ph d 260 (zstep ph (zEm ph d) 0 58 0 [1] L st M) := zEv_step rfl
theorem e260_58 (ph : Bool) (d : Nat) (L st : List zV) (M : zM) : zEv ph d 260 58 L st M = zcont ph d 260 (zstep ph (zEm ph d) 85 59 0 [] L st M) := zEv_step rfl
theorem e260_59 (ph : Bool) (d : Nat) (L st : List zV) (M : zM) : zEv ph d 260 59 L st M = zcont ph d 260 (zstep ph (zEm ph d) 19 60 0 [] L st M) := zEv_step rfl
theorem e260_60 (ph : Bool) (d : Nat) (L st : List zV) (M : zM) : zEv ph d 260 60 L st M = zcont ph d 260 (zstep ph (zEm ph d) 49 63 140 [] L st M) := zEv_step rfl
theorem e260_63 (ph : Bool) (d : Nat) (L st : List zV) (M : zM) : zEv ph d 260 63 L st M = zcont ph d 260 (zstep ph (zEm ph d) 4 64 0 [0] L st M) := zEv_step rfl
theorem e260_64 (ph : Bool) (d : Nat) (L st : List zV) (M : zM) : zEv ph d 260 64 L st M = zcont ph d 260 (zstep ph (zEm ph d) 2 65 0 [3] L st M) := zEv_step rfl
theorem e260_65 (ph : Bool) (d : Nat) (L st : List zV) (M : zM) : zEv ph d 260 65 L st M = zcont ph d 260 (zstep ph (zEm ph d) 0 66 0 [0] L st M) := zEv_step rfl
theorem e260_66 (ph : Bool) (d : Nat) (L st : List zV) (M : zM) : zEv ph d 260 66 L st M = zcont ph d 260 (zstep ph (zEm ph d) 70 69 212 [3, 1, 30] L st M) := zEv_step rfl
theorem e260_69 (ph : Bool) (d : Nat) (L st : List zV) (M : zM) : zEv ph d 260 69 L st M = zcont ph d 260 (zstep ph (zEm ph d) 4 70 0 [0] L st M) := zEv_step rfl
theorem e260_70 (ph : Bool) (d : Nat) (L st : List zV) (M : zM) : zEv ph d 260 70 L st M = zcont ph d 260 (zstep ph (zEm ph d) 62 73 0 [30, 1, 1, 10, 940] L st M) := zEv_step rfl
theorem e260_73 (ph : Bool) (d : Nat) (L st : List zV) (M : zM) : zEv ph d 260 73 L st M = zcont ph d 260 (zstep ph (zEm ph d) 0 74 0 [0] L st M) := zEv_step rfl
theorem e260_74 (ph : Bool) (d : Nat) (L st : List zV) (M : zM) : zEv ph d 260 74 L st M = zcont ph d 260 (zstep ph (zEm ph d) 85 75 0 [] L st M) := zEv_step rfl
theorem e260_75 (ph : Bool) (d : Nat) (L st : List zV) (M : zM) : zEv ph d 260 75 L st M = zcont ph d 260 (zstep ph (zEm ph d) 11 76 0 [] L st M) := zEv_step rfl
theorem e260_76 (ph : Bool) (d : Nat) (L st : List zV) (M : zM) : zEv ph d 260 76 L st M = zcont ph d 260 (zstep ph (zEm ph d) 70 79 172 [1, 1, -1] L st M) := zEv_step rfl
theorem e260_79 (ph : Bool) (d : Nat) (L st : List zV) (M : zM) : zEv ph d 260 79 L st M = zcont ph d 260 (zstep ph (zEm ph d) 4 80 0 [0] L st M) := zEv_step rfl
theorem e260_80 (ph : Bool) (d : Nat) (L st : List zV) (M : zM) : zEv ph d 260 80 L st M = zcont ph d 260 (zstep ph (zEm ph d) 62 83 0 [30, 1, 1, 10, 940] L st M) := zEv_step rfl
theorem e260_83 (ph : Bool) (d : Nat) (L st : List zV) (M : zM) : zEv ph d 260 83 L st M = zcont ph d 260 (zstep ph (zEm ph d) 0 84 0 [1] L st M) := zEv_step rfl
theorem e260_84 (ph : Bool) (d : Nat) (L st : List zV) (M : zM) : zEv ph d 260 84 L st M = zcont ph d 260 (zstep ph (zEm ph d) 85 85 0 [] L st M) := zEv_step rfl
theorem e260_85 (ph : Bool) (d : Nat) (L st : List zV) (M : zM) : zEv ph d 260 85 L st M = zcont ph d 260 (zstep ph (zEm ph d) 51 88 91 [] L st M) := zEv_step rfl
theorem e260_88 (ph : Bool) (d : Nat) (L st : List zV) (M : zM) : zEv ph d 260 88 L st M = zcont ph d 260 (zstep ph (zEm ph d) 52 91 134 [] L st M) := zEv_step rfl
theorem e260_91 (ph : Bool) (d : Nat) (L st : List zV) (M : zM) : zEv ph d 260 91 L st M = zcont ph d 260 (zstep ph (zEm ph d) 8 94 0 [1, 1] L st M) := zEv_step rfl
theorem e260_94 (ph : Bool) (d : Nat) (L st : List zV) (M : zM) : zEv ph d 260 94 L st M = zcont ph d 260 (zstep ph (zEm ph d) 2 95 0 [2] L st M) := zEv_step rfl
theorem e260_95 (ph : Bool) (d : Nat) (L st : List zV) (M : zM) : zEv ph d 260 95 L st M = zcont ph d 260 (zstep ph (zEm ph d) 2 96 0 [3] L st M) := zEv_step rfl
theorem e260_96 (ph : Bool) (d : Nat) (L st : List zV) (M : zM) : zEv ph d 260 96 L st M = zcont ph d 260 (zstep ph (zEm ph d) 16 97 0 [] L st M) := zEv_step rfl
theorem e260_97 (ph : Bool) (d : Nat) (L st : List zV) (M : zM) : zEv ph d 260 97 L st M = zcont ph d 260 (zstep ph (zEm ph d) 5 98 0 [2] L st M) := zEv_step rfl
theorem e260_98 (ph : Bool) (d : Nat) (L st : List zV) (M : zM) : zEv ph d 260 98 L st M = zcont ph d 260 (zstep ph (zEm ph d) 0 99 0 [0] L st M) := zEv_step rfl
theorem e260_99 (ph : Bool) (d : Nat) (L st : List zV) (M : zM) : zEv ph d 260 99 L st M = zcont ph d 260 (zstep ph (zEm ph d) 5 101 0 [4] L st M) := zEv_step rfl
theorem e260_101 (ph : Bool) (d : Nat) (L st : List zV) (M : zM) : zEv ph d 260 101 L st M = zcont ph d 260 (zstep ph (zEm ph d) 2 103 0 [4] L st M) := zEv_step rfl
theorem e260_103 (ph : Bool) (d : Nat) (L st : List zV) (M : zM) : zEv ph d 260 103 L st M = zcont ph d 260 (zstep ph (zEm ph d) 0 105 0 [10] L st M) := zEv_step rfl
theorem e260_105 (ph : Bool) (d : Nat) (L st : List zV) (M : zM) : zEv ph d 260 105 L st M = zcont ph d 260 (zstep ph (zEm ph d) 49 108 134 [] L st M) := zEv_step rfl
theorem e260_108 (ph : Bool) (d : Nat) (L st : List zV) (M : zM) : zEv ph d 260 108 L st M = zcont ph d 260 (zstep ph (zEm ph d) 2 109 0 [3] L st M) := zEv_step rfl
theorem e260_109 (ph : Bool) (d : Nat) (L st : List zV) (M : zM) : zEv ph d 260 109 L st M = zcont ph d 260 (zstep ph (zEm ph d) 2 111 0 [4] L st M) := zEv_step rfl
theorem e260_111 (ph : Bool) (d : Nat) (L st : List zV) (M : zM) : zEv ph d 260 111 L st M = zcont ph d 260 (zstep ph (zEm ph d) 70 114 169 [2, 1, -1] L st M) := zEv_step rfl
theorem e260_114 (ph : Bool) (d : Nat) (L st : List zV) (M : zM) : zEv ph d 260 114 L st M = zcont ph d 260 (zstep ph (zEm ph d) 40 117 128 [] L st M) := zEv_step rfl
theorem e260_117 (ph : Bool) (d : Nat) (L st : List zV) (M : zM) : zEv ph d 260 117 L st M = zcont ph d 260 (zstep ph (zEm ph d) 4 118 0 [0] L st M) := zEv_step rfl
theorem e260_118 (ph : Bool) (d : Nat) (L st : List zV) (M : zM) : zEv ph d 260 118 L st M = zcont ph d 260 (zstep ph (zEm ph d) 62 121 0 [30, 35, 17, 10, 10] L st M) := zEv_step rfl
theorem e260_121 (ph : Bool) (d : Nat) (L st : List zV) (M : zM) : zEv ph d 260 121 L st M = zcont ph d 260 (zstep ph (zEm ph d) 2 123 0 [4] L st M) := zEv_step rfl
theorem e260_123 (ph : Bool) (d : Nat) (L st : List zV) (M : zM) : zEv ph d 260 123 L st M = zcont ph d 260 (zstep ph (zEm ph d) 37 124 0 [] L st M) := zEv_step rfl
theorem e260_124 (ph : Bool) (d : Nat) (L st : List zV) (M : zM) : zEv ph d 260 124 L st M = zcont ph d 260 (zstep ph (zEm ph d) 85 125 0 [] L st M) := zEv_step rfl
theorem e260_125 (ph : Bool) (d : Nat) (L st : List zV) (M : zM) : zEv ph d 260 125 L st M = zcont ph d 260 (zstep ph (zEm ph d) 0 126 0 [1] L st M) := zEv_step rfl
theorem e260_126 (ph : Bool) (d : Nat) (L st : List zV) (M : zM) : zEv ph d 260 126 L st M = zcont ph d 260 (zstep ph (zEm ph d) 10 127 0 [] L st M) := zEv_step rfl
theorem e260_127 (ph : Bool) (d : Nat) (L st : List zV) (M : zM) : zEv ph d 260 127 L st M = zcont ph d 260 (zstep ph (zEm ph d) 89 128 0 [] L st M) := zEv_step rfl
theorem e260_128 (ph : Bool) (d : Nat) (L st : List zV) (M : zM) : zEv ph d 260 128 L st M = zcont ph d 260 (zstep ph (zEm ph d) 8 131 0 [4, 1] L st M) := zEv_step rfl
theorem e260_131 (ph : Bool) (d : Nat) (L st : List zV) (M : zM) : zEv ph d 260 131 L st M = zcont ph d 260 (zstep ph (zEm ph d) 52 134 101 [] L st M) := zEv_step rfl
theorem e260_134 (ph : Bool) (d : Nat) (L st : List zV) (M : zM) : zEv ph d 260 134 L st M = zcont ph d 260 (zstep ph (zEm ph d) 8 137 0 [3, 1] L st M) := zEv_step rfl
theorem e260_137 (ph : Bool) (d : Nat) (L st : List zV) (M : zM) : zEv ph d 260 137 L st M = zcont ph d 260 (zstep ph (zEm ph d) 52 140 51 [] L st M) := zEv_step rfl
theorem e260_140 (ph : Bool) (d : Nat) (L st : List zV) (M : zM) : zEv ph d 260 140 L st M = zcont ph d 260 (zstep ph (zEm ph d) 2 141 0 [1] L st M) := zEv_step rfl
theorem e260_141 (ph : Bool) (d : Nat) (L st : List zV) (M : zM) : zEv ph d 260 141 L st M = zcont ph d 260 (zstep ph (zEm ph d) 41 144 146 [] L st M) := zEv_step rfl
theorem e260_144 (ph : Bool) (d : Nat) (L st : List zV) (M : zM) : zEv ph d 260 144 L st M = zcont ph d 260 (zstep ph (zEm ph d) 0 145 0 [0] L st M) := zEv_step rfl
theorem e260_145 (ph : Bool) (d : Nat) (L st : List zV) (M : zM) : zEv ph d 260 145 L st M = zcont ph d 260 (zstep ph (zEm ph d) 80 146 0 [] L st M) := zEv_step rfl
theorem e260_146 (ph : Bool) (d : Nat) (L st : List zV) (M : zM) : zEv ph d 260 146 L st M = zcont ph d 260 (zstep ph (zEm ph d) 4 147 0 [0] L st M) := zEv_step rfl
theorem e260_147 (ph : Bool) (d : Nat) (L st : List zV) (M : zM) : zEv ph d 260 147 L st M = zcont ph d 260 (zstep ph (zEm ph d) 2 148 0 [2] L st M) := zEv_step rfl
theorem e260_148 (ph : Bool) (d : Nat) (L st : List zV) (M : zM) : zEv ph d 260 148 L st M = zcont ph d 260 (zstep ph (zEm ph d) 65 151 0 [30, 36] L st M) := zEv_step rfl
theorem e260_151 (ph : Bool) (d : Nat) (L st : List zV) (M : zM) : zEv ph d 260 151 L st M = zcont ph d 260 (zstep ph (zEm ph d) 4 152 0 [0] L st M) := zEv_step rfl
theorem e260_152 (ph : Bool) (d : Nat) (L st : List zV) (M : zM) : zEv ph d 260 152 L st M = zcont ph d 260 (zstep ph (zEm ph d) 0 153 0 [-1] L st M) := zEv_step rfl
theorem e260_153 (ph : Bool) (d : Nat) (L st : List zV) (M : zM) : zEv ph d 260 153 L st M = zcont ph d 260 (zstep ph (zEm ph d) 65 156 0 [30, 37] L st M) := zEv_step rfl
theorem e260_156 (ph : Bool) (d : Nat) (L st : List zV) (M : zM) : zEv ph d 260 156 L st M = zcont ph d 260 (zstep ph (zEm ph d) 0 157 0 [0] L st M) := zEv_step rfl
theorem e260_157 (ph : Bool) (d : Nat) (L st : List zV) (M : zM) : zEv ph d 260 157 L st M = zcont ph d 260 (zstep ph (zEm ph d) 5 158 0 [3] L st M) := zEv_step rfl
theorem e260_158 (ph : Bool) (d : Nat) (L st : List zV) (M : zM) : zEv ph d 260 158 L st M = zcont ph d 260 (zstep ph (zEm ph d) 2 159 0 [3] L st M) := zEv_step rfl
theorem e260_159 (ph : Bool) (d : Nat) (L st : List zV) (M : zM) : zEv ph d 260 159 L st M = zcont ph d 260 (zstep ph (zEm ph d) 4 160 0 [0] L st M) := zEv_step rfl
theorem e260_160 (ph : Bool) (d : Nat) (L st : List zV) (M : zM) : zEv ph d 260 160 L st M = zcont ph d 260 (zstep ph (zEm ph d) 62 163 0 [30, 14, 2, 10, 368] L st M) := zEv_step rfl
theorem e260_163 (ph : Bool) (d : Nat) (L st : List zV) (M : zM) : zEv ph d 260 163 L st M = zcont ph d 260 (zstep ph (zEm ph d) 0 164 0 [1] L st M) := zEv_step rfl
theorem e260_164 (ph : Bool) (d : Nat) (L st : List zV) (M : zM) : zEv ph d 260 164 L st M = zcont ph d 260 (zstep ph (zEm ph d) 85 165 0 [] L st M) := zEv_step rfl
theorem e260_165 (ph : Bool) (d : Nat) (L st : List zV) (M : zM) : zEv ph d 260 165 L st M = zcont ph d 260 (zstep ph (zEm ph d) 49 168 219 [] L st M) := zEv_step rfl
theorem e260_168 (ph : Bool) (d : Nat) (L st : List zV) (M : zM) : zEv ph d 260 168 L st M = zcont ph d 260 (zstep ph (zEm ph d) 4 169 0 [0] L st M) := zEv_step rfl
theorem e260_169 (ph : Bool) (d : Nat) (L st : List zV) (M : zM) : zEv ph d 260 169 L st M = zcont ph d 260 (zstep ph (zEm ph d) 60 172 0 [30, 37] L st M) := zEv_step rfl
theorem e260_172 (ph : Bool) (d : Nat) (L st : List zV) (M : zM) : zEv ph d 260 172 L st M = zcont ph d 260 (zstep ph (zEm ph d) 0 173 0 [-1] L st M) := zEv_step rfl
theorem e260_173 (ph : Bool) (d : Nat) (L st : List zV) (M : zM) : zEv ph d 260 173 L st M = zcont ph d 260 (zstep ph (zEm ph d) 46 176 208 [] L st M) := zEv_step rfl
theorem e260_176 (ph : Bool) (d : Nat) (L st : List zV) (M : zM) : zEv ph d 260 176 L st M = zcont ph d 260 (zstep ph (zEm ph d) 0 177 0 [2] L st M) := zEv_step rfl
theorem e260_177 (ph : Bool) (d : Nat) (L st : List zV) (M : zM) : zEv ph d 260 177 L st M = zcont ph d 260 (zstep ph (zEm ph d) 4 178 0 [0] L st M) := zEv_step rfl
theorem e260_178 (ph : Bool) (d : Nat) (L st : List zV) (M : zM) : zEv ph d 260 178 L st M = zcont ph d 260 (zstep ph (zEm ph d) 62 181 0 [30, 35, 17, 10, 10] L st M) := zEv_step rfl
theorem e260_181 (ph : Bool) (d : Nat) (L st : List zV) (M : zM) : zEv ph d 260 181 L st M = zcont ph d 260 (zstep ph (zEm ph d) 2 182 0 [3] L st M) := zEv_step rfl
theorem e260_182 (ph : Bool) (d : Nat) (L st : List zV) (M : zM) : zEv ph d 260 182 L st M = zcont ph d 260 (zstep ph (zEm ph d) 85 183 0 [] L st M) := zEv_step rfl
theorem e260_183 (ph : Bool) (d : Nat) (L st : List zV) (M : zM) : zEv ph d 260 183 L st M = zcont ph d 260 (zstep ph (zEm ph d) 12 184 0 [] L st M) := zEv_step rfl
theorem e260_184 (ph : Bool) (d : Nat) (L st : List zV) (M : zM) : zEv ph d 260 184 L st M = zcont ph d 260 (zstep ph (zEm ph d) 2 185 0 [1] L st M) := zEv_step rfl
theorem e260_185 (ph : Bool) (d : Nat) (L st : List zV) (M : zM) : zEv ph d 260 185 L st M = zcont ph d 260 (zstep ph (zEm ph d) 11 186 0 [] L st M) := zEv_step rfl
theorem e260_186 (ph : Bool) (d : Nat) (L st : List zV) (M : zM) : zEv ph d 260 186 L st M = zcont ph d 260 (zstep ph (zEm ph d) 70 189 172 [1, 1, -1] L st M) := zEv_step rfl
theorem e260_189 (ph : Bool) (d : Nat) (L st : List zV) (M : zM) : zEv ph d 260 189 L st M = zcont ph d 260 (zstep ph (zEm ph d) 0 190 0 [2] L st M) := zEv_step rfl
theorem e260_190 (ph : Bool) (d : Nat) (L st : List zV) (M : zM) : zEv ph d 260 190 L st M = zcont ph d 260 (zstep ph (zEm ph d) 4 191 0 [0] L st M) := zEv_step rfl
theorem e260_191 (ph : Bool) (d : Nat) (L st : List zV) (M : zM) : zEv ph d 260 191 L st M = zcont ph d 260 (zstep ph (zEm ph d) 62 194 0 [30, 35, 17, 10, 10] L st M) := zEv_step rfl
theorem e260_194 (ph : Bool) (d : Nat) (L st : List zV) (M : zM) : zEv ph d 260 194 L st M = zcont ph d 260 (zstep ph (zEm ph d) 4 195 0 [0] L st M) := zEv_step rfl
theorem e260_195 (ph : Bool) (d : Nat) (L st : List zV) (M : zM) : zEv ph d 260 195 L st M = zcont ph d 260 (zstep ph (zEm ph d) 60 198 0 [30, 37] L st M) := zEv_step rfl
theorem e260_198 (ph : Bool) (d : Nat) (L st : List zV) (M : zM) : zEv ph d 260 198 L st M = zcont ph d 260 (zstep ph (zEm ph d) 85 199 0 [] L st M) := zEv_step rfl
theorem e260_199 (ph : Bool) (d : Nat) (L st : List zV) (M : zM) : zEv ph d 260 199 L st M = zcont ph d 260 (zstep ph (zEm ph d) 12 200 0 [] L st M) := zEv_step rfl
theorem e260_200 (ph : Bool) (d : Nat) (L st : List zV) (M : zM) : zEv ph d 260 200 L st M = zcont ph d 260 (zstep ph (zEm ph d) 2 201 0 [1] L st M) := zEv_step rfl
theorem e260_201 (ph : Bool) (d : Nat) (L st : List zV) (M : zM) : zEv ph d 260 201 L st M = zcont ph d 260 (zstep ph (zEm ph d) 11 202 0 [] L st M) := zEv_step rfl
theorem e260_202 (ph : Bool) (d : Nat) (L st : List zV) (M : zM) : zEv ph d 260 202 L st M = zcont ph d 260 (zstep ph (zEm ph d) 70 205 172 [1, 1, -1] L st M) := zEv_step rfl
theorem e260_205 (ph : Bool) (d : Nat) (L st : List zV) (M : zM) : zEv ph d 260 205 L st M = zcont ph d 260 (zstep ph (zEm ph d) 49 208 213 [] L st M) := zEv_step rfl
theorem e260_208 (ph : Bool) (d : Nat) (L st : List zV) (M : zM) : zEv ph d 260 208 L st M = zcont ph d 260 (zstep ph (zEm ph d) 4 209 0 [0] L st M) := zEv_step rfl
theorem e260_209 (ph : Bool) (d : Nat) (L st : List zV) (M : zM) : zEv ph d 260 209 L st M = zcont ph d 260 (zstep ph (zEm ph d) 2 210 0 [3] L st M) := zEv_step rfl
theorem e260_210 (ph : Bool) (d : Nat) (L st : List zV) (M : zM) : zEv ph d 260 210 L st M = zcont ph d 260 (zstep ph (zEm ph d) 65 213 0 [30, 37] L st M) := zEv_step rfl
theorem e260_213 (ph : Bool) (d : Nat) (L st : List zV) (M : zM) : zEv ph d 260 213 L st M = zcont ph d 260 (zstep ph (zEm ph d) 8 216 0 [3, 1] L st M) := zEv_step rfl
theorem e260_216 (ph : Bool) (d : Nat) (L st : List zV) (M : zM) : zEv ph d 260 216 L st M = zcont ph d 260 (zstep ph (zEm ph d) 52 219 158 [] L st M) := zEv_step rfl
theorem e260_219 (ph : Bool) (d : Nat) (L st : List zV) (M : zM) : zEv ph d 260 219 L st M = zcont ph d 260 (zstep ph (zEm ph d) 2 220 0 [1] L st M) := zEv_step rfl
theorem e260_220 (ph : Bool) (d : Nat) (L st : List zV) (M : zM) : zEv ph d 260 220 L st M = zcont ph d 260 (zstep ph (zEm ph d) 80 221 0 [] L st M) := zEv_step rfl
theorem s_at (d : Nat) (x1 i y : Int) (M : zM) : zEm true (d + 1) 136 [(27, 2, x1), (0, i, y)] M = some ((0, if 0 ≤ i ∧ i < M 2 1 ∧ i < 940 then M 3 i else -1, 0), M) := by
  by_cases c1 : 0 ≤ i
  · by_cases c2 : i < M 2 1
    · by_cases c3 : i < 940
      · rw [if_pos ⟨c1, c2, c3⟩]
        simp (disch := first | assumption | exact zrm0 | exact zrm1 _ | exact zrm2 _ _ | exact zrm3 _ _ _ | exact zrm4 _ _ _ _ | omega) only [m136, ↓k_dp, ↓k_dn, k_dp, k_dn, k_dT, k_dF, k_ip, k_in, if_true, if_false, ne_eq, not_true_eq_false, not_false_eq_true, Int.reduceAdd, zup_a, zup_e, zup_j, z32_id, k_il1, k_iflt, k_al0, k_gI, k_icge, k_gR, k_len, k_ild, k_ildS, k_ildW, k_goto, k_ic, k_ri, e136_0, e136_1, e136_4, e136_5, e136_6, e136_9, e136_12, e136_13, e136_14, e136_17, e136_18, e136_21, e136_22, e136_25, e136_26, e136_27, e136_30, e136_31]
      · rw [if_neg (by omega)]
        simp (disch := first | assumption | exact zrm0 | exact zrm1 _ | exact zrm2 _ _ | exact zrm3 _ _ _ | exact zrm4 _ _ _ _ | omega) only [m136, ↓k_dp, ↓k_dn, k_dp, k_dn, k_dT, k_dF, k_ip, k_in, if_true, if_false, ne_eq, not_true_eq_false, not_false_eq_true, Int.reduceAdd, zup_a, zup_e, zup_j, z32_id, k_il1, k_iflt, k_al0, k_gI, k_icge, k_gR, k_len, k_ild, k_ildS, k_ildW, k_goto, k_ic, k_ri, e136_0, e136_1, e136_4, e136_5, e136_6, e136_9, e136_12, e136_13, e136_14, e136_17, e136_18, e136_21, e136_22, e136_25, e136_26, e136_27, e136_30, e136_31]
    · rw [if_neg (by omega)]
      simp (disch := first | assumption | exact zrm0 | exact zrm1 _ | exact zrm2 _ _ | exact zrm3 _ _ _ | exact zrm4 _ _ _ _ | omega) only [m136, ↓k_dp, ↓k_dn, k_dp, k_dn, k_dT, k_dF, k_ip, k_in, if_true, if_false, ne_eq, not_true_eq_false, not_false_eq_true, Int.reduceAdd, zup_a, zup_e, zup_j, z32_id, k_il1, k_iflt, k_al0, k_gI, k_icge, k_gR, k_len, k_ild, k_ildS, k_ildW, k_goto, k_ic, k_ri, e136_0, e136_1, e136_4, e136_5, e136_6, e136_9, e136_12, e136_13, e136_14, e136_17, e136_18, e136_21, e136_22, e136_25, e136_26, e136_27, e136_30, e136_31]
  · rw [if_neg (by omega)]
    simp (disch := first | assumption | exact zrm0 | exact zrm1 _ | exact zrm2 _ _ | exact zrm3 _ _ _ | exact zrm4 _ _ _ _ | omega) only [m136, ↓k_dp, ↓k_dn, k_dp, k_dn, k_dT, k_dF, k_ip, k_in, if_true, if_false, ne_eq, not_true_eq_false, not_false_eq_true, Int.reduceAdd, zup_a, zup_e, zup_j, z32_id, k_il1, k_iflt, k_al0, k_gI, k_icge, k_gR, k_len, k_ild, k_ildS, k_ildW, k_goto, k_ic, k_ri, e136_0, e136_1, e136_4, e136_5, e136_6, e136_9, e136_12, e136_13, e136_14, e136_17, e136_18, e136_21, e136_22, e136_25, e136_26, e136_27, e136_30, e136_31]
theorem c_tallyHands (d : Nat) (x0 s y : Int) (M : zM) (g1 : 0 ≤ M 30 7) (g2 : M 30 7 ≤ 10) : zEm true (d + 1) 58 [(29, 0, x0), (0, s, y)] M = some ((98, 0, 0), zit (fun h N => zup N 79 h (z32 (N 79 h + zbit s h))) (M 30 7).toNat 0 M) := by
  have hl := zfor (ph := true) (d := d) (j := 58) (pc := 2) (fun h N => zup N 79 h (z32 (N 79 h + zbit s h))) (fun h N => 0 ≤ h ∧ N 30 7 = M 30 7) (fun h _ => [(29, 0, x0), (0, s, y), (0, h, 0)]) (fun N => N) (M 30 7)
    (fun k b hk hp => ⟨by
      obtain ⟨h0, h1⟩ := hp
      rw [e58_2]
      unfold zbit
      simp (disch := first | assumption | exact zrm0 | exact zrm1 _ | exact zrm2 _ _ | exact zrm3 _ _ _ | exact zrm4 _ _ _ _ | omega) only [m58, ↓k_dp, ↓k_dn, k_dp, k_dn, k_dT, k_dF, k_ip, k_in, if_true, if_false, ne_eq, not_true_eq_false, not_false_eq_true, Int.reduceAdd, zup_a, zup_e, zup_j, z32_id, k_ic, k_is2, k_il2, k_al0, k_gR, k_gI, k_icge, k_dup2, k_ild, k_ildS, k_ildW, k_il1, k_ishr, k_iand, k_iadd, k_ist, k_inc2, k_goto, k_rv, e58_0, e58_1, e58_3, e58_4, e58_7, e58_10, e58_13, e58_14, e58_17, e58_18, e58_19, e58_20, e58_21, e58_22, e58_23, e58_24, e58_25, e58_26, e58_27, e58_30, e58_33, h1], by omega, by rw [zup_a (by omega)]; exact hp.2⟩) (M 30 7).toNat 0 M (by omega) ⟨Int.le_refl _, rfl⟩
  obtain ⟨h1, -, h2⟩ := hl
  simp (disch := first | assumption | exact zrm0 | exact zrm1 _ | exact zrm2 _ _ | exact zrm3 _ _ _ | exact zrm4 _ _ _ _ | omega) only [m58, ↓k_dp, ↓k_dn, k_dp, k_dn, k_dT, k_dF, k_ip, k_in, if_true, if_false, ne_eq, not_true_eq_false, not_false_eq_true, Int.reduceAdd, zup_a, zup_e, zup_j, z32_id, k_ic, k_is2, k_il2, k_al0, k_gR, k_gI, k_icge, k_dup2, k_ild, k_ildS, k_ildW, k_il1, k_ishr, k_iand, k_iadd, k_ist, k_inc2, k_goto, k_rv, e58_0, e58_1, e58_3, e58_4, e58_7, e58_10, e58_13, e58_14, e58_17, e58_18, e58_19, e58_20, e58_21, e58_22, e58_23, e58_24, e58_25, e58_26, e58_27, e58_30, e58_33]
  rw [h1]
  simp (disch := first | assumption | exact zrm0 | exact zrm1 _ | exact zrm2 _ _ | exact zrm3 _ _ _ | exact zrm4 _ _ _ _ | omega) only [m58, ↓k_dp, ↓k_dn, k_dp, k_dn, k_dT, k_dF, k_ip, k_in, if_true, if_false, ne_eq, not_true_eq_false, not_false_eq_true, Int.reduceAdd, zup_a, zup_e, zup_j, z32_id, k_ic, k_is2, k_il2, k_al0, k_gR, k_gI, k_icge, k_dup2, k_ild, k_ildS, k_ildW, k_il1, k_ishr, k_iand, k_iadd, k_ist, k_inc2, k_goto, k_rv, e58_0, e58_1, e58_2, e58_3, e58_4, e58_7, e58_10, e58_13, e58_14, e58_17, e58_18, e58_19, e58_20, e58_21, e58_22, e58_23, e58_24, e58_25, e58_26, e58_27, e58_30, e58_33, h2]
theorem c_evenestHand (d : Nat) (x0 n y : Int) (M : zM) (g1 : 0 ≤ M 30 7) (g2 : M 30 7 ≤ 10) : zEm true (d + 1) 59 [(29, 0, x0), (0, n, y)] M = some ((0, zit (eF (fun h => M 79 h) n) (M 30 7).toNat 0 (-1), 0), M) := by
  have hl := zfor (α := Int × zV) (ph := true) (d := d) (j := 59) (pc := 7) (fun h p => (eF (fun h => M 79 h) n h p.1, (0, sAbs (z32 (z32 (2 * M 79 h) - n)), 0))) (fun h p => 0 ≤ h ∧ -1 ≤ p.1 ∧ p.1 < h) (fun h p => [(29, 0, x0), (0, n, y), (0, p.1, 0), (0, if p.1 = -1 then 0 else sAbs (z32 (z32 (2 * M 79 p.1) - n)), 0), (0, h, 0), p.2]) (fun _ => M) (M 30 7)
    (fun k p hk hp => by
      obtain ⟨b, l5⟩ := p
      obtain ⟨h0, h1, h2⟩ := hp
      dsimp only at h1 h2 ⊢
      refine ⟨?_, by omega, ?_, ?_⟩
      · rw [e59_7]
        unfold eF
        by_cases c1 : b = -1
        · subst c1
          unfold sAbs
          simp (disch := first | assumption | exact zrm0 | exact zrm1 _ | exact zrm2 _ _ | exact zrm3 _ _ _ | exact zrm4 _ _ _ _ | omega) only [m59, ↓k_dp, ↓k_dn, k_dp, k_dn, k_dT, k_dF, k_ip, k_in, if_true, if_false, ne_eq, not_true_eq_false, not_false_eq_true, Int.reduceAdd, zup_a, zup_e, zup_j, z32_id, k_ic, k_is2, k_is3, k_is4, k_il4, k_al0, k_gR, k_gI, k_icge, k_ild, k_ildS, k_ildW, k_imul, k_il1, k_isub, k_abs, k_is5, k_il2, k_iceq, k_il5, k_il3, k_inc4, k_goto, k_ri, e59_0, e59_1, e59_2, e59_3, e59_4, e59_5, e59_9, e59_10, e59_13, e59_16, e59_19, e59_20, e59_21, e59_24, e59_26, e59_27, e59_28, e59_29, e59_30, e59_33, e59_35, e59_36, e59_37, e59_40, e59_42, e59_43, e59_46, e59_48, e59_49, e59_51, e59_52, e59_55, e59_58, e59_59]
        · by_cases c2 : sAbs (z32 (z32 (2 * M 79 k) - n)) < sAbs (z32 (z32 (2 * M 79 b) - n))
          · rw [if_neg c1, if_neg c1, if_pos c2, if_neg (by omega)]
            unfold sAbs at c2 ⊢
            simp (disch := first | assumption | exact zrm0 | exact zrm1 _ | exact zrm2 _ _ | exact zrm3 _ _ _ | exact zrm4 _ _ _ _ | omega) only [m59, ↓k_dp, ↓k_dn, k_dp, k_dn, k_dT, k_dF, k_ip, k_in, if_true, if_false, ne_eq, not_true_eq_false, not_false_eq_true, Int.reduceAdd, zup_a, zup_e, zup_j, z32_id, k_ic, k_is2, k_is3, k_is4, k_il4, k_al0, k_gR, k_gI, k_icge, k_ild, k_ildS, k_ildW, k_imul, k_il1, k_isub, k_abs, k_is5, k_il2, k_iceq, k_il5, k_il3, k_inc4, k_goto, k_ri, e59_0, e59_1, e59_2, e59_3, e59_4, e59_5, e59_9, e59_10, e59_13, e59_16, e59_19, e59_20, e59_21, e59_24, e59_26, e59_27, e59_28, e59_29, e59_30, e59_33, e59_35, e59_36, e59_37, e59_40, e59_42, e59_43, e59_46, e59_48, e59_49, e59_51, e59_52, e59_55, e59_58, e59_59]
          · rw [if_neg c1, if_neg c1, if_neg c2, if_neg c1]
            unfold sAbs at c2 ⊢
            simp (disch := first | assumption | exact zrm0 | exact zrm1 _ | exact zrm2 _ _ | exact zrm3 _ _ _ | exact zrm4 _ _ _ _ | omega) only [m59, ↓k_dp, ↓k_dn, k_dp, k_dn, k_dT, k_dF, k_ip, k_in, if_true, if_false, ne_eq, not_true_eq_false, not_false_eq_true, Int.reduceAdd, zup_a, zup_e, zup_j, z32_id, k_ic, k_is2, k_is3, k_is4, k_il4, k_al0, k_gR, k_gI, k_icge, k_ild, k_ildS, k_ildW, k_imul, k_il1, k_isub, k_abs, k_is5, k_il2, k_iceq, k_il5, k_il3, k_inc4, k_goto, k_ri, e59_0, e59_1, e59_2, e59_3, e59_4, e59_5, e59_9, e59_10, e59_13, e59_16, e59_19, e59_20, e59_21, e59_24, e59_26, e59_27, e59_28, e59_29, e59_30, e59_33, e59_35, e59_36, e59_37, e59_40, e59_42, e59_43, e59_46, e59_48, e59_49, e59_51, e59_52, e59_55, e59_58, e59_59]
      · unfold eF; split
        · omega
        · split <;> omega
      · unfold eF; split
        · omega
        · split <;> omega) (M 30 7).toNat 0 (-1, (3, 0, 0)) (by omega) ⟨Int.le_refl _, by decide, by decide⟩
  have hf := zit_fst (F := fun (h : Int) (p : Int × zV) => (eF (fun h => M 79 h) n h p.1, ((0, sAbs (z32 (z32 (2 * M 79 h) - n)), 0) : zV))) (f := eF (fun h => M 79 h) n) (fun _ _ => rfl) (M 30 7).toNat 0 (-1, (3, 0, 0))
  dsimp only at hf
  rw [← hf]
  obtain ⟨h1, -⟩ := hl
  dsimp only at h1
  rw [if_pos rfl] at h1
  simp (disch := first | assumption | exact zrm0 | exact zrm1 _ | exact zrm2 _ _ | exact zrm3 _ _ _ | exact zrm4 _ _ _ _ | omega) only [m59, ↓k_dp, ↓k_dn, k_dp, k_dn, k_dT, k_dF, k_ip, k_in, if_true, if_false, ne_eq, not_true_eq_false, not_false_eq_true, Int.reduceAdd, zup_a, zup_e, zup_j, z32_id, k_ic, k_is2, k_is3, k_is4, k_il4, k_al0, k_gR, k_gI, k_icge, k_ild, k_ildS, k_ildW, k_imul, k_il1, k_isub, k_abs, k_is5, k_il2, k_iceq, k_il5, k_il3, k_inc4, k_goto, k_ri, e59_0, e59_1, e59_2, e59_3, e59_4, e59_5, e59_9, e59_10, e59_13, e59_16, e59_19, e59_20, e59_21, e59_24, e59_26, e59_27, e59_28, e59_29, e59_30, e59_33, e59_35, e59_36, e59_37, e59_40, e59_42, e59_43, e59_46, e59_48, e59_49, e59_51, e59_52, e59_55, e59_58, e59_59]
  rw [h1]
  simp (disch := first | assumption | exact zrm0 | exact zrm1 _ | exact zrm2 _ _ | exact zrm3 _ _ _ | exact zrm4 _ _ _ _ | omega) only [m59, ↓k_dp, ↓k_dn, k_dp, k_dn, k_dT, k_dF, k_ip, k_in, if_true, if_false, ne_eq, not_true_eq_false, not_false_eq_true, Int.reduceAdd, zup_a, zup_e, zup_j, z32_id, k_ic, k_is2, k_is3, k_is4, k_il4, k_al0, k_gR, k_gI, k_icge, k_ild, k_ildS, k_ildW, k_imul, k_il1, k_isub, k_abs, k_is5, k_il2, k_iceq, k_il5, k_il3, k_inc4, k_goto, k_ri, e59_0, e59_1, e59_2, e59_3, e59_4, e59_5, e59_7, e59_9, e59_10, e59_13, e59_16, e59_19, e59_20, e59_21, e59_24, e59_26, e59_27, e59_28, e59_29, e59_30, e59_33, e59_35, e59_36, e59_37, e59_40, e59_42, e59_43, e59_46, e59_48, e59_49, e59_51, e59_52, e59_55, e59_58, e59_59]
