/-! the builder of the text -/
theorem zshr_sm {x : Int} (h0 : 0 ≤ x) (h1 : x < 128) : zshr x 0 = x := zshr_small h0 h1
theorem zshl_small {x : Int} (h0 : 0 ≤ x) (h1 : x < 128) : zshl x 0 = x := by
  have h : ∀ n : Fin 128, zshl (n.val : Int) 0 = (n.val : Int) := by decide +kernel
  obtain ⟨n, rfl⟩ := Int.eq_ofNat_of_zero_le h0
  exact h ⟨n, by omega⟩
def okY (M : zM) : Prop := 220 ≤ M (-1) 0 ∧ (M 54 0 = 55 ∨ (220 ≤ M 54 0 ∧ M 54 0 < M (-1) 0)) ∧ (M 54 1000 = 16 ∨ M 54 1000 = 34) ∧ M 54 1 = 0 ∧ (0 ≤ M 54 3 ∧ M 54 3 ≤ M 54 1000)
def cEns (M : zM) (m : Int) : zM := if M 54 1000 < m then zup (zup (zcpy (znew M 34) (M 54 0) 0 (M (-1) 0) 0 16) 54 0 (M (-1) 0)) 54 1000 34 else M
def zFY (x y : Int) : Prop := (x = 54 ∧ (y = 0 ∨ y = 2 ∨ y = 3 ∨ y = 1000)) ∨ x = 55 ∨ 220 ≤ x ∨ (x = -1 ∧ (y = 0 ∨ y = 1 ∨ y = 2))
def zPot (M M' : zM) : Prop := M' (-1) 1 + (if M' 54 1000 = 16 then 1 else 0) ≤ M (-1) 1 + (if M 54 1000 = 16 then 1 else 0) ∧ M' (-1) 2 + (if M' 54 1000 = 16 then 34 else 0) ≤ M (-1) 2 + (if M 54 1000 = 16 then 34 else 0)
theorem zPot_refl {M : zM} : zPot M M := ⟨Int.le_refl _, Int.le_refl _⟩
theorem zPot_trans {M N P : zM} (h1 : zPot M N) (h2 : zPot N P) : zPot M P := ⟨Int.le_trans h2.1 h1.1, Int.le_trans h2.2 h1.2⟩
theorem cEns_ok {M : zM} {m : Int} (hY : okY M) (h1 : m ≤ 34) : okY (cEns M m) ∧ m ≤ cEns M m 54 1000 ∧ cEns M m 54 3 = M 54 3 ∧ (∀ i, 0 ≤ i → i < M 54 3 → cEns M m (cEns M m 54 0) i = M (M 54 0) i) ∧ (∀ x y, ¬ zFY x y → cEns M m x y = M x y) ∧ zPot M (cEns M m) := by
  obtain ⟨a1, a2, a3, a4, a5, a6⟩ := hY
  unfold cEns
  by_cases c : M 54 1000 < m
  · have c16 : M 54 1000 = 16 := by omega
    rw [if_pos c]
    have h54 : ∀ y, y ≠ 0 → y ≠ 1000 → zup (zup (zcpy (znew M 34) (M 54 0) 0 (M (-1) 0) 0 16) 54 0 (M (-1) 0)) 54 1000 34 54 y = M 54 y := fun y b c => by
      rw [zup_j c, zup_j b, zcpy_o (by omega)]
      unfold znew
      rw [if_neg (by omega), if_neg (by omega)]
    have h540 : zup (zup (zcpy (znew M 34) (M 54 0) 0 (M (-1) 0) 0 16) 54 0 (M (-1) 0)) 54 1000 34 54 0 = M (-1) 0 := by rw [zup_j (by omega), zup_e (by omega)]
    have h541 : zup (zup (zcpy (znew M 34) (M 54 0) 0 (M (-1) 0) 0 16) 54 0 (M (-1) 0)) 54 1000 34 54 1000 = 34 := zup_e (by omega)
    have hm : ∀ y, zup (zup (zcpy (znew M 34) (M 54 0) 0 (M (-1) 0) 0 16) 54 0 (M (-1) 0)) 54 1000 34 (-1) y = if y = 0 then M (-1) 0 + 1 else if y = 1 then M (-1) 1 + 1 else if y = 2 then M (-1) 2 + 34 else M (-1) y := fun y => by
      rw [zup_a (by omega), zup_a (by omega), zcpy_o (by omega)]
      unfold znew
      rw [if_pos rfl]
    refine ⟨⟨?_, ?_, ?_, ?_, ?_⟩, ?_, ?_, fun i i0 i1 => ?_, fun x y h => ?_, ?_, ?_⟩
    · rw [hm, if_pos rfl]; omega
    · rw [hm, if_pos rfl, h540]; omega
    · rw [h541]; omega
    · rw [h54 _ (by omega) (by omega)]; exact a4
    · rw [h54 _ (by omega) (by omega), h541]; omega
    · rw [h541]; exact h1
    · exact h54 _ (by omega) (by omega)
    · rw [h540, zup_a (by omega), zup_a (by omega), zcpy_i (by omega) (by omega) (by omega)]
      unfold znew
      rw [if_neg (by omega), if_neg (by omega), show 0 + (i - 0) = i by omega]
    · unfold zFY at h
      have g0 : M (-1) 0 ≠ x := by omega
      by_cases cx : x = 54
      · subst cx; exact h54 y (by omega) (by omega)
      · rw [zup_a cx, zup_a cx, zcpy_o (fun z => g0 z.symm)]
        unfold znew
        by_cases cm : x = -1
        · rw [if_pos cm, if_neg (by omega), if_neg (by omega), if_neg (by omega)]
        · rw [if_neg cm, if_neg (fun z => g0 z.symm)]
    · rw [hm, h541, c16]
      simp
    · rw [hm, h541, c16]
      simp
  · rw [if_neg c]
    exact ⟨⟨a1, a2, a3, a4, a5, a6⟩, by omega, rfl, fun _ _ _ => rfl, fun _ _ _ => rfl, zPot_refl⟩
theorem m302 (ph : Bool) (d : Nat) (a x0 p0 y0 : Int) (M : zM) : zEm ph (d + 1) 302 [(31, a, x0), (0, p0, y0)] M = zEv ph d 302 0 [(31, a, x0), (0, p0, y0), (3, 0, 0)] [] M := rfl
theorem e302_0 (ph : Bool) (d : Nat) (L st : List zV) (M : zM) : zEv ph d 302 0 L st M = zcont ph d 302 (zstep ph (zEm ph d) 4 1 0 [0] L st M) := zEv_step rfl
theorem e302_1 (ph : Bool) (d : Nat) (L st : List zV) (M : zM) : zEv ph d 302 1 L st M = zcont ph d 302 (zstep ph (zEm ph d) 64 4 0 [31, 0, 13] L st M) := zEv_step rfl
theorem e302_4 (ph : Bool) (d : Nat) (L st : List zV) (M : zM) : zEv ph d 302 4 L st M = zcont ph d 302 (zstep ph (zEm ph d) 84 5 0 [] L st M) := zEv_step rfl
theorem e302_5 (ph : Bool) (d : Nat) (L st : List zV) (M : zM) : zEv ph d 302 5 L st M = zcont ph d 302 (zstep ph (zEm ph d) 4 6 0 [0] L st M) := zEv_step rfl
theorem e302_6 (ph : Bool) (d : Nat) (L st : List zV) (M : zM) : zEv ph d 302 6 L st M = zcont ph d 302 (zstep ph (zEm ph d) 60 9 0 [31, 1] L st M) := zEv_step rfl
theorem e302_9 (ph : Bool) (d : Nat) (L st : List zV) (M : zM) : zEv ph d 302 9 L st M = zcont ph d 302 (zstep ph (zEm ph d) 20 10 0 [] L st M) := zEv_step rfl
theorem e302_10 (ph : Bool) (d : Nat) (L st : List zV) (M : zM) : zEv ph d 302 10 L st M = zcont ph d 302 (zstep ph (zEm ph d) 5 11 0 [2] L st M) := zEv_step rfl
theorem e302_11 (ph : Bool) (d : Nat) (L st : List zV) (M : zM) : zEv ph d 302 11 L st M = zcont ph d 302 (zstep ph (zEm ph d) 2 12 0 [1] L st M) := zEv_step rfl
theorem e302_12 (ph : Bool) (d : Nat) (L st : List zV) (M : zM) : zEv ph d 302 12 L st M = zcont ph d 302 (zstep ph (zEm ph d) 2 13 0 [2] L st M) := zEv_step rfl
theorem e302_13 (ph : Bool) (d : Nat) (L st : List zV) (M : zM) : zEv ph d 302 13 L st M = zcont ph d 302 (zstep ph (zEm ph d) 11 14 0 [] L st M) := zEv_step rfl
theorem e302_14 (ph : Bool) (d : Nat) (L st : List zV) (M : zM) : zEv ph d 302 14 L st M = zcont ph d 302 (zstep ph (zEm ph d) 45 17 38 [] L st M) := zEv_step rfl
theorem e302_17 (ph : Bool) (d : Nat) (L st : List zV) (M : zM) : zEv ph d 302 17 L st M = zcont ph d 302 (zstep ph (zEm ph d) 4 18 0 [0] L st M) := zEv_step rfl
theorem e302_18 (ph : Bool) (d : Nat) (L st : List zV) (M : zM) : zEv ph d 302 18 L st M = zcont ph d 302 (zstep ph (zEm ph d) 4 19 0 [0] L st M) := zEv_step rfl
theorem e302_19 (ph : Bool) (d : Nat) (L st : List zV) (M : zM) : zEv ph d 302 19 L st M = zcont ph d 302 (zstep ph (zEm ph d) 64 22 0 [31, 0, 13] L st M) := zEv_step rfl
theorem e302_22 (ph : Bool) (d : Nat) (L st : List zV) (M : zM) : zEv ph d 302 22 L st M = zcont ph d 302 (zstep ph (zEm ph d) 4 23 0 [0] L st M) := zEv_step rfl
theorem e302_23 (ph : Bool) (d : Nat) (L st : List zV) (M : zM) : zEv ph d 302 23 L st M = zcont ph d 302 (zstep ph (zEm ph d) 2 24 0 [1] L st M) := zEv_step rfl
theorem e302_24 (ph : Bool) (d : Nat) (L st : List zV) (M : zM) : zEv ph d 302 24 L st M = zcont ph d 302 (zstep ph (zEm ph d) 70 27 303 [2, 1, 31] L st M) := zEv_step rfl
theorem e302_27 (ph : Bool) (d : Nat) (L st : List zV) (M : zM) : zEv ph d 302 27 L st M = zcont ph d 302 (zstep ph (zEm ph d) 4 28 0 [0] L st M) := zEv_step rfl
theorem e302_28 (ph : Bool) (d : Nat) (L st : List zV) (M : zM) : zEv ph d 302 28 L st M = zcont ph d 302 (zstep ph (zEm ph d) 60 31 0 [31, 1] L st M) := zEv_step rfl
theorem e302_31 (ph : Bool) (d : Nat) (L st : List zV) (M : zM) : zEv ph d 302 31 L st M = zcont ph d 302 (zstep ph (zEm ph d) 19 32 0 [] L st M) := zEv_step rfl
theorem e302_32 (ph : Bool) (d : Nat) (L st : List zV) (M : zM) : zEv ph d 302 32 L st M = zcont ph d 302 (zstep ph (zEm ph d) 70 35 366 [2, 1, -1] L st M) := zEv_step rfl
theorem e302_35 (ph : Bool) (d : Nat) (L st : List zV) (M : zM) : zEv ph d 302 35 L st M = zcont ph d 302 (zstep ph (zEm ph d) 69 38 0 [31, 0, 13] L st M) := zEv_step rfl
theorem e302_38 (ph : Bool) (d : Nat) (L st : List zV) (M : zM) : zEv ph d 302 38 L st M = zcont ph d 302 (zstep ph (zEm ph d) 83 39 0 [] L st M) := zEv_step rfl
theorem m303 (ph : Bool) (d : Nat) (a x0 p0 y0 : Int) (M : zM) : zEm ph (d + 1) 303 [(31, a, x0), (0, p0, y0)] M = zEv ph d 303 0 [(31, a, x0), (0, p0, y0), (3, 0, 0), (3, 0, 0), (3, 0, 0), (3, 0, 0)] [] M := rfl
theorem e303_0 (ph : Bool) (d : Nat) (L st : List zV) (M : zM) : zEv ph d 303 0 L st M = zcont ph d 303 (zstep ph (zEm ph d) 4 1 0 [0] L st M) := zEv_step rfl
theorem e303_1 (ph : Bool) (d : Nat) (L st : List zV) (M : zM) : zEv ph d 303 1 L st M = zcont ph d 303 (zstep ph (zEm ph d) 64 4 0 [31, 0, 13] L st M) := zEv_step rfl
theorem e303_4 (ph : Bool) (d : Nat) (L st : List zV) (M : zM) : zEv ph d 303 4 L st M = zcont ph d 303 (zstep ph (zEm ph d) 84 5 0 [] L st M) := zEv_step rfl
theorem e303_5 (ph : Bool) (d : Nat) (L st : List zV) (M : zM) : zEv ph d 303 5 L st M = zcont ph d 303 (zstep ph (zEm ph d) 5 6 0 [2] L st M) := zEv_step rfl
theorem e303_6 (ph : Bool) (d : Nat) (L st : List zV) (M : zM) : zEv ph d 303 6 L st M = zcont ph d 303 (zstep ph (zEm ph d) 2 7 0 [1] L st M) := zEv_step rfl
theorem e303_7 (ph : Bool) (d : Nat) (L st : List zV) (M : zM) : zEv ph d 303 7 L st M = zcont ph d 303 (zstep ph (zEm ph d) 4 8 0 [0] L st M) := zEv_step rfl
theorem e303_8 (ph : Bool) (d : Nat) (L st : List zV) (M : zM) : zEv ph d 303 8 L st M = zcont ph d 303 (zstep ph (zEm ph d) 60 11 0 [31, 1] L st M) := zEv_step rfl
theorem e303_11 (ph : Bool) (d : Nat) (L st : List zV) (M : zM) : zEv ph d 303 11 L st M = zcont ph d 303 (zstep ph (zEm ph d) 19 12 0 [] L st M) := zEv_step rfl
theorem e303_12 (ph : Bool) (d : Nat) (L st : List zV) (M : zM) : zEv ph d 303 12 L st M = zcont ph d 303 (zstep ph (zEm ph d) 5 13 0 [3] L st M) := zEv_step rfl
theorem e303_13 (ph : Bool) (d : Nat) (L st : List zV) (M : zM) : zEv ph d 303 13 L st M = zcont ph d 303 (zstep ph (zEm ph d) 2 14 0 [3] L st M) := zEv_step rfl
theorem e303_14 (ph : Bool) (d : Nat) (L st : List zV) (M : zM) : zEv ph d 303 14 L st M = zcont ph d 303 (zstep ph (zEm ph d) 2 15 0 [2] L st M) := zEv_step rfl
theorem e303_15 (ph : Bool) (d : Nat) (L st : List zV) (M : zM) : zEv ph d 303 15 L st M = zcont ph d 303 (zstep ph (zEm ph d) 11 16 0 [] L st M) := zEv_step rfl
theorem e303_16 (ph : Bool) (d : Nat) (L st : List zV) (M : zM) : zEv ph d 303 16 L st M = zcont ph d 303 (zstep ph (zEm ph d) 5 18 0 [4] L st M) := zEv_step rfl
theorem e303_18 (ph : Bool) (d : Nat) (L st : List zV) (M : zM) : zEv ph d 303 18 L st M = zcont ph d 303 (zstep ph (zEm ph d) 2 19 0 [2] L st M) := zEv_step rfl
theorem e303_19 (ph : Bool) (d : Nat) (L st : List zV) (M : zM) : zEv ph d 303 19 L st M = zcont ph d 303 (zstep ph (zEm ph d) 2 21 0 [4] L st M) := zEv_step rfl
theorem e303_21 (ph : Bool) (d : Nat) (L st : List zV) (M : zM) : zEv ph d 303 21 L st M = zcont ph d 303 (zstep ph (zEm ph d) 2 22 0 [2] L st M) := zEv_step rfl
theorem e303_22 (ph : Bool) (d : Nat) (L st : List zV) (M : zM) : zEv ph d 303 22 L st M = zcont ph d 303 (zstep ph (zEm ph d) 0 23 0 [2] L st M) := zEv_step rfl
theorem e303_23 (ph : Bool) (d : Nat) (L st : List zV) (M : zM) : zEv ph d 303 23 L st M = zcont ph d 303 (zstep ph (zEm ph d) 4 24 0 [0] L st M) := zEv_step rfl
theorem e303_24 (ph : Bool) (d : Nat) (L st : List zV) (M : zM) : zEv ph d 303 24 L st M = zcont ph d 303 (zstep ph (zEm ph d) 60 27 0 [31, 1] L st M) := zEv_step rfl
theorem e303_27 (ph : Bool) (d : Nat) (L st : List zV) (M : zM) : zEv ph d 303 27 L st M = zcont ph d 303 (zstep ph (zEm ph d) 19 28 0 [] L st M) := zEv_step rfl
theorem e303_28 (ph : Bool) (d : Nat) (L st : List zV) (M : zM) : zEv ph d 303 28 L st M = zcont ph d 303 (zstep ph (zEm ph d) 10 29 0 [] L st M) := zEv_step rfl
theorem e303_29 (ph : Bool) (d : Nat) (L st : List zV) (M : zM) : zEv ph d 303 29 L st M = zcont ph d 303 (zstep ph (zEm ph d) 70 32 367 [3, 1, -1] L st M) := zEv_step rfl
theorem e303_32 (ph : Bool) (d : Nat) (L st : List zV) (M : zM) : zEv ph d 303 32 L st M = zcont ph d 303 (zstep ph (zEm ph d) 5 34 0 [5] L st M) := zEv_step rfl
theorem e303_34 (ph : Bool) (d : Nat) (L st : List zV) (M : zM) : zEv ph d 303 34 L st M = zcont ph d 303 (zstep ph (zEm ph d) 2 36 0 [5] L st M) := zEv_step rfl
theorem e303_36 (ph : Bool) (d : Nat) (L st : List zV) (M : zM) : zEv ph d 303 36 L st M = zcont ph d 303 (zstep ph (zEm ph d) 0 38 0 [2147483647] L st M) := zEv_step rfl
theorem e303_38 (ph : Bool) (d : Nat) (L st : List zV) (M : zM) : zEv ph d 303 38 L st M = zcont ph d 303 (zstep ph (zEm ph d) 47 41 51 [] L st M) := zEv_step rfl
theorem e303_44 (ph : Bool) (d : Nat) (L st : List zV) (M : zM) : zEv ph d 303 44 L st M = zcont ph d 303 (zstep ph (zEm ph d) 36 45 0 [] L st M) := zEv_step rfl
theorem e303_51 (ph : Bool) (d : Nat) (L st : List zV) (M : zM) : zEv ph d 303 51 L st M = zcont ph d 303 (zstep ph (zEm ph d) 2 53 0 [5] L st M) := zEv_step rfl
theorem e303_53 (ph : Bool) (d : Nat) (L st : List zV) (M : zM) : zEv ph d 303 53 L st M = zcont ph d 303 (zstep ph (zEm ph d) 4 54 0 [0] L st M) := zEv_step rfl
theorem e303_54 (ph : Bool) (d : Nat) (L st : List zV) (M : zM) : zEv ph d 303 54 L st M = zcont ph d 303 (zstep ph (zEm ph d) 60 57 0 [31, 1] L st M) := zEv_step rfl
theorem e303_57 (ph : Bool) (d : Nat) (L st : List zV) (M : zM) : zEv ph d 303 57 L st M = zcont ph d 303 (zstep ph (zEm ph d) 20 58 0 [] L st M) := zEv_step rfl
theorem e303_58 (ph : Bool) (d : Nat) (L st : List zV) (M : zM) : zEv ph d 303 58 L st M = zcont ph d 303 (zstep ph (zEm ph d) 80 59 0 [] L st M) := zEv_step rfl
theorem m367 (ph : Bool) (d : Nat) (p0 y0 p1 y1 p2 y2 : Int) (M : zM) : zEm ph (d + 1) 367 [(0, p0, y0), (0, p1, y1), (0, p2, y2)] M = zEv ph d 367 0 [(0, p0, y0), (0, p1, y1), (0, p2, y2), (3, 0, 0)] [] M := rfl
theorem e367_0 (ph : Bool) (d : Nat) (L st : List zV) (M : zM) : zEv ph d 367 0 L st M = zcont ph d 367 (zstep ph (zEm ph d) 2 1 0 [0] L st M) := zEv_step rfl
theorem e367_1 (ph : Bool) (d : Nat) (L st : List zV) (M : zM) : zEv ph d 367 1 L st M = zcont ph d 367 (zstep ph (zEm ph d) 2 2 0 [1] L st M) := zEv_step rfl
theorem e367_2 (ph : Bool) (d : Nat) (L st : List zV) (M : zM) : zEv ph d 367 2 L st M = zcont ph d 367 (zstep ph (zEm ph d) 2 3 0 [2] L st M) := zEv_step rfl
theorem e367_3 (ph : Bool) (d : Nat) (L st : List zV) (M : zM) : zEv ph d 367 3 L st M = zcont ph d 367 (zstep ph (zEm ph d) 71 6 0 [] L st M) := zEv_step rfl
theorem e367_6 (ph : Bool) (d : Nat) (L st : List zV) (M : zM) : zEv ph d 367 6 L st M = zcont ph d 367 (zstep ph (zEm ph d) 10 7 0 [] L st M) := zEv_step rfl
theorem e367_7 (ph : Bool) (d : Nat) (L st : List zV) (M : zM) : zEv ph d 367 7 L st M = zcont ph d 367 (zstep ph (zEm ph d) 5 8 0 [3] L st M) := zEv_step rfl
theorem e367_8 (ph : Bool) (d : Nat) (L st : List zV) (M : zM) : zEv ph d 367 8 L st M = zcont ph d 367 (zstep ph (zEm ph d) 0 9 0 [0] L st M) := zEv_step rfl
theorem e367_9 (ph : Bool) (d : Nat) (L st : List zV) (M : zM) : zEv ph d 367 9 L st M = zcont ph d 367 (zstep ph (zEm ph d) 2 10 0 [3] L st M) := zEv_step rfl
theorem e367_10 (ph : Bool) (d : Nat) (L st : List zV) (M : zM) : zEv ph d 367 10 L st M = zcont ph d 367 (zstep ph (zEm ph d) 49 13 21 [] L st M) := zEv_step rfl
theorem e367_13 (ph : Bool) (d : Nat) (L st : List zV) (M : zM) : zEv ph d 367 13 L st M = zcont ph d 367 (zstep ph (zEm ph d) 2 14 0 [3] L st M) := zEv_step rfl
theorem e367_14 (ph : Bool) (d : Nat) (L st : List zV) (M : zM) : zEv ph d 367 14 L st M = zcont ph d 367 (zstep ph (zEm ph d) 0 16 0 [2147483639] L st M) := zEv_step rfl
theorem e367_16 (ph : Bool) (d : Nat) (L st : List zV) (M : zM) : zEv ph d 367 16 L st M = zcont ph d 367 (zstep ph (zEm ph d) 50 19 21 [] L st M) := zEv_step rfl
theorem e367_19 (ph : Bool) (d : Nat) (L st : List zV) (M : zM) : zEv ph d 367 19 L st M = zcont ph d 367 (zstep ph (zEm ph d) 2 20 0 [3] L st M) := zEv_step rfl
theorem e367_20 (ph : Bool) (d : Nat) (L st : List zV) (M : zM) : zEv ph d 367 20 L st M = zcont ph d 367 (zstep ph (zEm ph d) 80 21 0 [] L st M) := zEv_step rfl
theorem e367_21 (ph : Bool) (d : Nat) (L st : List zV) (M : zM) : zEv ph d 367 21 L st M = zcont ph d 367 (zstep ph (zEm ph d) 2 22 0 [0] L st M) := zEv_step rfl
theorem e367_22 (ph : Bool) (d : Nat) (L st : List zV) (M : zM) : zEv ph d 367 22 L st M = zcont ph d 367 (zstep ph (zEm ph d) 2 23 0 [1] L st M) := zEv_step rfl
theorem e367_23 (ph : Bool) (d : Nat) (L st : List zV) (M : zM) : zEv ph d 367 23 L st M = zcont ph d 367 (zstep ph (zEm ph d) 70 26 368 [2, 1, -1] L st M) := zEv_step rfl
theorem e367_26 (ph : Bool) (d : Nat) (L st : List zV) (M : zM) : zEv ph d 367 26 L st M = zcont ph d 367 (zstep ph (zEm ph d) 80 27 0 [] L st M) := zEv_step rfl
theorem m366 (ph : Bool) (d : Nat) (p0 y0 p1 y1 : Int) (M : zM) : zEm ph (d + 1) 366 [(13, p0, y0), (0, p1, y1)] M = zEv ph d 366 0 [(13, p0, y0), (0, p1, y1), (3, 0, 0)] [] M := rfl
theorem e366_0 (ph : Bool) (d : Nat) (L st : List zV) (M : zM) : zEv ph d 366 0 L st M = zcont ph d 366 (zstep ph (zEm ph d) 2 1 0 [1] L st M) := zEv_step rfl
theorem e366_1 (ph : Bool) (d : Nat) (L st : List zV) (M : zM) : zEv ph d 366 1 L st M = zcont ph d 366 (zstep ph (zEm ph d) 4 2 0 [0] L st M) := zEv_step rfl
theorem e366_2 (ph : Bool) (d : Nat) (L st : List zV) (M : zM) : zEv ph d 366 2 L st M = zcont ph d 366 (zstep ph (zEm ph d) 84 3 0 [] L st M) := zEv_step rfl
theorem e366_3 (ph : Bool) (d : Nat) (L st : List zV) (M : zM) : zEv ph d 366 3 L st M = zcont ph d 366 (zstep ph (zEm ph d) 47 6 14 [] L st M) := zEv_step rfl
theorem e366_6 (ph : Bool) (d : Nat) (L st : List zV) (M : zM) : zEv ph d 366 6 L st M = zcont ph d 366 (zstep ph (zEm ph d) 4 7 0 [0] L st M) := zEv_step rfl
theorem e366_13 (ph : Bool) (d : Nat) (L st : List zV) (M : zM) : zEv ph d 366 13 L st M = zcont ph d 366 (zstep ph (zEm ph d) 82 14 0 [] L st M) := zEv_step rfl
theorem e366_14 (ph : Bool) (d : Nat) (L st : List zV) (M : zM) : zEv ph d 366 14 L st M = zcont ph d 366 (zstep ph (zEm ph d) 2 15 0 [1] L st M) := zEv_step rfl
theorem e366_15 (ph : Bool) (d : Nat) (L st : List zV) (M : zM) : zEv ph d 366 15 L st M = zcont ph d 366 (zstep ph (zEm ph d) 93 17 0 [13] L st M) := zEv_step rfl
theorem e366_17 (ph : Bool) (d : Nat) (L st : List zV) (M : zM) : zEv ph d 366 17 L st M = zcont ph d 366 (zstep ph (zEm ph d) 7 18 0 [2] L st M) := zEv_step rfl
theorem e366_18 (ph : Bool) (d : Nat) (L st : List zV) (M : zM) : zEv ph d 366 18 L st M = zcont ph d 366 (zstep ph (zEm ph d) 4 19 0 [0] L st M) := zEv_step rfl
theorem e366_19 (ph : Bool) (d : Nat) (L st : List zV) (M : zM) : zEv ph d 366 19 L st M = zcont ph d 366 (zstep ph (zEm ph d) 0 20 0 [0] L st M) := zEv_step rfl
theorem e366_20 (ph : Bool) (d : Nat) (L st : List zV) (M : zM) : zEv ph d 366 20 L st M = zcont ph d 366 (zstep ph (zEm ph d) 4 21 0 [2] L st M) := zEv_step rfl
theorem e366_21 (ph : Bool) (d : Nat) (L st : List zV) (M : zM) : zEv ph d 366 21 L st M = zcont ph d 366 (zstep ph (zEm ph d) 0 22 0 [0] L st M) := zEv_step rfl
theorem e366_22 (ph : Bool) (d : Nat) (L st : List zV) (M : zM) : zEv ph d 366 22 L st M = zcont ph d 366 (zstep ph (zEm ph d) 4 23 0 [0] L st M) := zEv_step rfl
theorem e366_23 (ph : Bool) (d : Nat) (L st : List zV) (M : zM) : zEv ph d 366 23 L st M = zcont ph d 366 (zstep ph (zEm ph d) 84 24 0 [] L st M) := zEv_step rfl
theorem e366_24 (ph : Bool) (d : Nat) (L st : List zV) (M : zM) : zEv ph d 366 24 L st M = zcont ph d 366 (zstep ph (zEm ph d) 2 25 0 [1] L st M) := zEv_step rfl
theorem e366_25 (ph : Bool) (d : Nat) (L st : List zV) (M : zM) : zEv ph d 366 25 L st M = zcont ph d 366 (zstep ph (zEm ph d) 72 28 0 [] L st M) := zEv_step rfl
theorem e366_28 (ph : Bool) (d : Nat) (L st : List zV) (M : zM) : zEv ph d 366 28 L st M = zcont ph d 366 (zstep ph (zEm ph d) 74 31 0 [] L st M) := zEv_step rfl
theorem e366_31 (ph : Bool) (d : Nat) (L st : List zV) (M : zM) : zEv ph d 366 31 L st M = zcont ph d 366 (zstep ph (zEm ph d) 4 32 0 [2] L st M) := zEv_step rfl
theorem e366_32 (ph : Bool) (d : Nat) (L st : List zV) (M : zM) : zEv ph d 366 32 L st M = zcont ph d 366 (zstep ph (zEm ph d) 82 33 0 [] L st M) := zEv_step rfl
theorem m311 (ph : Bool) (d : Nat) (a x0 : Int) (M : zM) : zEm ph (d + 1) 311 [(31, a, x0)] M = zEv ph d 311 0 [(31, a, x0)] [] M := rfl
theorem e311_0 (ph : Bool) (d : Nat) (L st : List zV) (M : zM) : zEv ph d 311 0 L st M = zcont ph d 311 (zstep ph (zEm ph d) 0 3 0 [1] L st M) := zEv_step rfl
theorem e311_3 (ph : Bool) (d : Nat) (L st : List zV) (M : zM) : zEv ph d 311 3 L st M = zcont ph d 311 (zstep ph (zEm ph d) 40 6 17 [] L st M) := zEv_step rfl
theorem e311_6 (ph : Bool) (d : Nat) (L st : List zV) (M : zM) : zEv ph d 311 6 L st M = zcont ph d 311 (zstep ph (zEm ph d) 4 7 0 [0] L st M) := zEv_step rfl
theorem e311_7 (ph : Bool) (d : Nat) (L st : List zV) (M : zM) : zEv ph d 311 7 L st M = zcont ph d 311 (zstep ph (zEm ph d) 60 10 0 [31, 1] L st M) := zEv_step rfl
theorem e311_10 (ph : Bool) (d : Nat) (L st : List zV) (M : zM) : zEv ph d 311 10 L st M = zcont ph d 311 (zstep ph (zEm ph d) 41 13 17 [] L st M) := zEv_step rfl
theorem e311_13 (ph : Bool) (d : Nat) (L st : List zV) (M : zM) : zEv ph d 311 13 L st M = zcont ph d 311 (zstep ph (zEm ph d) 0 14 0 [1] L st M) := zEv_step rfl
theorem e311_14 (ph : Bool) (d : Nat) (L st : List zV) (M : zM) : zEv ph d 311 14 L st M = zcont ph d 311 (zstep ph (zEm ph d) 52 17 18 [] L st M) := zEv_step rfl
theorem e311_17 (ph : Bool) (d : Nat) (L st : List zV) (M : zM) : zEv ph d 311 17 L st M = zcont ph d 311 (zstep ph (zEm ph d) 0 18 0 [0] L st M) := zEv_step rfl
theorem e311_18 (ph : Bool) (d : Nat) (L st : List zV) (M : zM) : zEv ph d 311 18 L st M = zcont ph d 311 (zstep ph (zEm ph d) 80 19 0 [0, 1] L st M) := zEv_step rfl
theorem m305 (ph : Bool) (d : Nat) (a x0 p0 y0 : Int) (M : zM) : zEm ph (d + 1) 305 [(31, a, x0), (0, p0, y0)] M = zEv ph d 305 0 [(31, a, x0), (0, p0, y0)] [] M := rfl
theorem e305_0 (ph : Bool) (d : Nat) (L st : List zV) (M : zM) : zEv ph d 305 0 L st M = zcont ph d 305 (zstep ph (zEm ph d) 2 1 0 [1] L st M) := zEv_step rfl
theorem e305_1 (ph : Bool) (d : Nat) (L st : List zV) (M : zM) : zEv ph d 305 1 L st M = zcont ph d 305 (zstep ph (zEm ph d) 43 4 13 [] L st M) := zEv_step rfl
theorem e305_7 (ph : Bool) (d : Nat) (L st : List zV) (M : zM) : zEv ph d 305 7 L st M = zcont ph d 305 (zstep ph (zEm ph d) 36 8 0 [] L st M) := zEv_step rfl
theorem e305_8 (ph : Bool) (d : Nat) (L st : List zV) (M : zM) : zEv ph d 305 8 L st M = zcont ph d 305 (zstep ph (zEm ph d) 2 9 0 [1] L st M) := zEv_step rfl
theorem e305_13 (ph : Bool) (d : Nat) (L st : List zV) (M : zM) : zEv ph d 305 13 L st M = zcont ph d 305 (zstep ph (zEm ph d) 4 14 0 [0] L st M) := zEv_step rfl
theorem e305_14 (ph : Bool) (d : Nat) (L st : List zV) (M : zM) : zEv ph d 305 14 L st M = zcont ph d 305 (zstep ph (zEm ph d) 2 15 0 [1] L st M) := zEv_step rfl
theorem e305_15 (ph : Bool) (d : Nat) (L st : List zV) (M : zM) : zEv ph d 305 15 L st M = zcont ph d 305 (zstep ph (zEm ph d) 70 18 302 [2, 0, 31] L st M) := zEv_step rfl
theorem e305_18 (ph : Bool) (d : Nat) (L st : List zV) (M : zM) : zEv ph d 305 18 L st M = zcont ph d 305 (zstep ph (zEm ph d) 4 19 0 [0] L st M) := zEv_step rfl
theorem e305_19 (ph : Bool) (d : Nat) (L st : List zV) (M : zM) : zEv ph d 305 19 L st M = zcont ph d 305 (zstep ph (zEm ph d) 60 22 0 [31, 3] L st M) := zEv_step rfl
theorem e305_22 (ph : Bool) (d : Nat) (L st : List zV) (M : zM) : zEv ph d 305 22 L st M = zcont ph d 305 (zstep ph (zEm ph d) 2 23 0 [1] L st M) := zEv_step rfl
theorem e305_23 (ph : Bool) (d : Nat) (L st : List zV) (M : zM) : zEv ph d 305 23 L st M = zcont ph d 305 (zstep ph (zEm ph d) 49 26 63 [] L st M) := zEv_step rfl
theorem e305_26 (ph : Bool) (d : Nat) (L st : List zV) (M : zM) : zEv ph d 305 26 L st M = zcont ph d 305 (zstep ph (zEm ph d) 4 27 0 [0] L st M) := zEv_step rfl
theorem e305_27 (ph : Bool) (d : Nat) (L st : List zV) (M : zM) : zEv ph d 305 27 L st M = zcont ph d 305 (zstep ph (zEm ph d) 70 30 311 [1, 1, 31] L st M) := zEv_step rfl
theorem e305_30 (ph : Bool) (d : Nat) (L st : List zV) (M : zM) : zEv ph d 305 30 L st M = zcont ph d 305 (zstep ph (zEm ph d) 40 33 48 [] L st M) := zEv_step rfl
theorem e305_33 (ph : Bool) (d : Nat) (L st : List zV) (M : zM) : zEv ph d 305 33 L st M = zcont ph d 305 (zstep ph (zEm ph d) 4 34 0 [0] L st M) := zEv_step rfl
theorem e305_34 (ph : Bool) (d : Nat) (L st : List zV) (M : zM) : zEv ph d 305 34 L st M = zcont ph d 305 (zstep ph (zEm ph d) 64 37 0 [31, 0, 13] L st M) := zEv_step rfl
theorem e305_37 (ph : Bool) (d : Nat) (L st : List zV) (M : zM) : zEv ph d 305 37 L st M = zcont ph d 305 (zstep ph (zEm ph d) 4 38 0 [0] L st M) := zEv_step rfl
theorem e305_38 (ph : Bool) (d : Nat) (L st : List zV) (M : zM) : zEv ph d 305 38 L st M = zcont ph d 305 (zstep ph (zEm ph d) 60 41 0 [31, 3] L st M) := zEv_step rfl
theorem e305_41 (ph : Bool) (d : Nat) (L st : List zV) (M : zM) : zEv ph d 305 41 L st M = zcont ph d 305 (zstep ph (zEm ph d) 2 42 0 [1] L st M) := zEv_step rfl
theorem e305_42 (ph : Bool) (d : Nat) (L st : List zV) (M : zM) : zEv ph d 305 42 L st M = zcont ph d 305 (zstep ph (zEm ph d) 70 45 344 [3, 0, -1] L st M) := zEv_step rfl
theorem e305_45 (ph : Bool) (d : Nat) (L st : List zV) (M : zM) : zEv ph d 305 45 L st M = zcont ph d 305 (zstep ph (zEm ph d) 52 48 76 [] L st M) := zEv_step rfl
theorem e305_48 (ph : Bool) (d : Nat) (L st : List zV) (M : zM) : zEv ph d 305 48 L st M = zcont ph d 305 (zstep ph (zEm ph d) 4 49 0 [0] L st M) := zEv_step rfl
theorem e305_49 (ph : Bool) (d : Nat) (L st : List zV) (M : zM) : zEv ph d 305 49 L st M = zcont ph d 305 (zstep ph (zEm ph d) 64 52 0 [31, 0, 13] L st M) := zEv_step rfl
theorem e305_52 (ph : Bool) (d : Nat) (L st : List zV) (M : zM) : zEv ph d 305 52 L st M = zcont ph d 305 (zstep ph (zEm ph d) 4 53 0 [0] L st M) := zEv_step rfl
theorem e305_53 (ph : Bool) (d : Nat) (L st : List zV) (M : zM) : zEv ph d 305 53 L st M = zcont ph d 305 (zstep ph (zEm ph d) 60 56 0 [31, 3] L st M) := zEv_step rfl
theorem e305_56 (ph : Bool) (d : Nat) (L st : List zV) (M : zM) : zEv ph d 305 56 L st M = zcont ph d 305 (zstep ph (zEm ph d) 2 57 0 [1] L st M) := zEv_step rfl
theorem e305_57 (ph : Bool) (d : Nat) (L st : List zV) (M : zM) : zEv ph d 305 57 L st M = zcont ph d 305 (zstep ph (zEm ph d) 70 60 355 [3, 0, -1] L st M) := zEv_step rfl
theorem e305_60 (ph : Bool) (d : Nat) (L st : List zV) (M : zM) : zEv ph d 305 60 L st M = zcont ph d 305 (zstep ph (zEm ph d) 52 63 76 [] L st M) := zEv_step rfl
theorem e305_63 (ph : Bool) (d : Nat) (L st : List zV) (M : zM) : zEv ph d 305 63 L st M = zcont ph d 305 (zstep ph (zEm ph d) 4 64 0 [0] L st M) := zEv_step rfl
theorem e305_64 (ph : Bool) (d : Nat) (L st : List zV) (M : zM) : zEv ph d 305 64 L st M = zcont ph d 305 (zstep ph (zEm ph d) 60 67 0 [31, 3] L st M) := zEv_step rfl
theorem e305_67 (ph : Bool) (d : Nat) (L st : List zV) (M : zM) : zEv ph d 305 67 L st M = zcont ph d 305 (zstep ph (zEm ph d) 2 68 0 [1] L st M) := zEv_step rfl
theorem e305_68 (ph : Bool) (d : Nat) (L st : List zV) (M : zM) : zEv ph d 305 68 L st M = zcont ph d 305 (zstep ph (zEm ph d) 51 71 76 [] L st M) := zEv_step rfl
theorem e305_71 (ph : Bool) (d : Nat) (L st : List zV) (M : zM) : zEv ph d 305 71 L st M = zcont ph d 305 (zstep ph (zEm ph d) 4 72 0 [0] L st M) := zEv_step rfl
theorem e305_72 (ph : Bool) (d : Nat) (L st : List zV) (M : zM) : zEv ph d 305 72 L st M = zcont ph d 305 (zstep ph (zEm ph d) 0 73 0 [1] L st M) := zEv_step rfl
theorem e305_73 (ph : Bool) (d : Nat) (L st : List zV) (M : zM) : zEv ph d 305 73 L st M = zcont ph d 305 (zstep ph (zEm ph d) 65 76 0 [31, 2, 0, 1] L st M) := zEv_step rfl
theorem e305_76 (ph : Bool) (d : Nat) (L st : List zV) (M : zM) : zEv ph d 305 76 L st M = zcont ph d 305 (zstep ph (zEm ph d) 4 77 0 [0] L st M) := zEv_step rfl
theorem e305_77 (ph : Bool) (d : Nat) (L st : List zV) (M : zM) : zEv ph d 305 77 L st M = zcont ph d 305 (zstep ph (zEm ph d) 2 78 0 [1] L st M) := zEv_step rfl
theorem e305_78 (ph : Bool) (d : Nat) (L st : List zV) (M : zM) : zEv ph d 305 78 L st M = zcont ph d 305 (zstep ph (zEm ph d) 65 81 0 [31, 3] L st M) := zEv_step rfl
theorem e305_81 (ph : Bool) (d : Nat) (L st : List zV) (M : zM) : zEv ph d 305 81 L st M = zcont ph d 305 (zstep ph (zEm ph d) 83 82 0 [] L st M) := zEv_step rfl
theorem m338 (ph : Bool) (d : Nat) (a x0 p0 y0 : Int) (M : zM) : zEm ph (d + 1) 338 [(31, a, x0), (0, p0, y0)] M = zEv ph d 338 0 [(31, a, x0), (0, p0, y0)] [] M := rfl
theorem e338_0 (ph : Bool) (d : Nat) (L st : List zV) (M : zM) : zEv ph d 338 0 L st M = zcont ph d 338 (zstep ph (zEm ph d) 4 1 0 [0] L st M) := zEv_step rfl
theorem e338_1 (ph : Bool) (d : Nat) (L st : List zV) (M : zM) : zEv ph d 338 1 L st M = zcont ph d 338 (zstep ph (zEm ph d) 2 2 0 [1] L st M) := zEv_step rfl
theorem e338_2 (ph : Bool) (d : Nat) (L st : List zV) (M : zM) : zEv ph d 338 2 L st M = zcont ph d 338 (zstep ph (zEm ph d) 70 5 305 [2, 0, 31] L st M) := zEv_step rfl
theorem e338_5 (ph : Bool) (d : Nat) (L st : List zV) (M : zM) : zEv ph d 338 5 L st M = zcont ph d 338 (zstep ph (zEm ph d) 83 6 0 [] L st M) := zEv_step rfl
theorem s_newLength (d : Nat) (m y1 y2 y3 : Int) (M : zM) (m0 : 16 ≤ m) (m1 : m ≤ 34) : zEm true (d + 1) 367 [(0, 16, y1), (0, m - 16, y2), (0, 18, y3)] M = some ((0, 34, 0), M) := by
  have h : (if m - 16 < 18 then (18 : Int) else m - 16) = 18 := by split <;> omega
  simp (disch := first | assumption | exact zrm0 | exact zrm1 _ | exact zrm2 _ _ | exact zrm3 _ _ _ | exact zrm4 _ _ _ _ | omega) only [m367, ↓k_dp, ↓k_dn, k_dp, k_dn, k_dT, k_dF, k_ip, k_in, if_true, if_false, ne_eq, not_true_eq_false, not_false_eq_true, Int.reduceAdd, zup_a, zup_e, zup_j, z32_id, k_il0, k_il1, k_il2, k_max, k_iadd, k_is3, k_ic, k_il3, k_icge, k_icgt, k_ri, k_s2r, zb0_some, zb1_some, e367_0, e367_1, e367_2, e367_3, e367_6, e367_7, e367_8, e367_9, e367_10, e367_13, e367_14, e367_16, e367_19, e367_20, e367_21, e367_22, e367_23, e367_26, h]
theorem s_newCapacity (d : Nat) (m y y1 : Int) (M : zM) (hc : M 54 1000 = 16) (h0 : 0 < M 54 0) (h1 : M 54 1 = 0) (m0 : 16 ≤ m) (m1 : m ≤ 34) : zEm true (d + 2) 303 [(31, 54, y), (0, m, y1)] M = some ((0, 34, 0), M) := by
  have e1 := zshl_small (x := m) (by omega) (by omega)
  have e2 : zshl 2 0 = 2 := zshl_small (by omega) (by omega)
  have e3 : zshr 34 0 = 34 := zshr_small (by omega) (by omega)
  simp (disch := first | assumption | exact zrm0 | exact zrm1 _ | exact zrm2 _ _ | exact zrm3 _ _ _ | exact zrm4 _ _ _ _ | omega) only [m303, ↓k_dp, ↓k_dn, k_dp, k_dn, k_dT, k_dF, k_ip, k_in, if_true, if_false, ne_eq, not_true_eq_false, not_false_eq_true, Int.reduceAdd, zup_a, zup_e, zup_j, z32_id, k_al0, k_gD, k_len, k_is2, k_il1, k_gI, k_ishl, k_is3, k_il3, k_il2, k_isub, k_is4, k_il4, k_ic, k_iadd, k_s3r, k_is5, k_il5, k_icne, k_dup, k_ishr, k_ri, zb0_some, zb1_some, e303_0, e303_1, e303_4, e303_5, e303_6, e303_7, e303_8, e303_11, e303_12, e303_13, e303_14, e303_15, e303_16, e303_18, e303_19, e303_21, e303_22, e303_23, e303_24, e303_27, e303_28, e303_29, e303_32, e303_34, e303_36, e303_38, e303_44, e303_51, e303_53, e303_54, e303_57, e303_58, s_newLength, hc, h1, e1, e2, e3, Int.reduceAdd]
theorem s_copyOf (d : Nat) (a y : Int) (M : zM) (ha : a ≠ M (-1) 0) : zEm true (d + 1) 366 [(13, a, 16), (0, 34, y)] M = some ((13, M (-1) 0, 34), zcpy (znew M 34) a 0 (M (-1) 0) 0 16) := by
  simp (disch := first | assumption | exact zrm0 | exact zrm1 _ | exact zrm2 _ _ | exact zrm3 _ _ _ | exact zrm4 _ _ _ _ | omega) only [m366, ↓k_dp, ↓k_dn, k_dp, k_dn, k_dT, k_dF, k_ip, k_in, if_true, if_false, ne_eq, not_true_eq_false, not_false_eq_true, Int.reduceAdd, zup_a, zup_e, zup_j, z32_id, k_il1, k_al0, k_len, k_icne, k_ra, k_na, k_as2, k_ic, k_al2, k_min, k_cpy, k_cpyS, e366_0, e366_1, e366_2, e366_3, e366_6, e366_13, e366_14, e366_15, e366_17, e366_18, e366_19, e366_20, e366_21, e366_22, e366_23, e366_24, e366_25, e366_28, e366_31, e366_32, Int.reduceLT]
theorem s_ensure (d : Nat) (m y y1 : Int) (M : zM) (hY : okY M) (m0 : 0 ≤ m) (m1 : m ≤ 34) : zEm true (d + 3) 302 [(31, 54, y), (0, m, y1)] M = some ((98, 0, 0), cEns M m) := by
  obtain ⟨a1, a2, a3, a4, a5, a6⟩ := hY
  have e1 := zshr_small (x := M 54 1000) (by omega) (by omega)
  have e3 : zshl 34 0 = 34 := zshl_small (by omega) (by omega)
  unfold cEns
  by_cases c : M 54 1000 < m
  · have c16 : M 54 1000 = 16 := by omega
    rw [c16] at e1
    rw [if_pos c]
    have hn := s_newCapacity (d) m y 0 M c16 (by omega) a4 (by omega) m1
    simp (disch := first | assumption | exact zrm0 | exact zrm1 _ | exact zrm2 _ _ | exact zrm3 _ _ _ | exact zrm4 _ _ _ _ | omega) only [m302, ↓k_dp, ↓k_dn, k_dp, k_dn, k_dT, k_dF, k_ip, k_in, if_true, if_false, ne_eq, not_true_eq_false, not_false_eq_true, Int.reduceAdd, zup_a, zup_e, zup_j, z32_id, k_al0, k_gD, k_len, k_gI, k_ishr, k_is2, k_il1, k_il2, k_isub, k_ifle, k_v2r, k_ishl, k_s2r, k_pD, k_rv, zb0_some, zb1_some, e302_0, e302_1, e302_4, e302_5, e302_6, e302_9, e302_10, e302_11, e302_12, e302_13, e302_14, e302_17, e302_18, e302_19, e302_22, e302_23, e302_24, e302_27, e302_28, e302_31, e302_32, e302_35, e302_38, hn, s_copyOf, e1, e3, a4, c16]
  · rw [if_neg c]
    simp (disch := first | assumption | exact zrm0 | exact zrm1 _ | exact zrm2 _ _ | exact zrm3 _ _ _ | exact zrm4 _ _ _ _ | omega) only [m302, ↓k_dp, ↓k_dn, k_dp, k_dn, k_dT, k_dF, k_ip, k_in, if_true, if_false, ne_eq, not_true_eq_false, not_false_eq_true, Int.reduceAdd, zup_a, zup_e, zup_j, z32_id, k_al0, k_gD, k_len, k_gI, k_ishr, k_is2, k_il1, k_il2, k_isub, k_ifle, k_v2r, k_ishl, k_s2r, k_pD, k_rv, zb0_some, zb1_some, e302_0, e302_1, e302_4, e302_5, e302_6, e302_9, e302_10, e302_11, e302_12, e302_13, e302_14, e302_17, e302_18, e302_19, e302_22, e302_23, e302_24, e302_27, e302_28, e302_31, e302_32, e302_35, e302_38, e1, a4]
