/-! the crier: the pair -/
theorem r_next_is (D : Nat) (z y : Int) (M : zM) (hD : 10 ≤ D) (t0 : 0 ≤ M 197 39) (t1 : M 197 39 ≤ 40) : ∃ M', zEm true D 266 [(30, 197, z), (1, V27 [19, 9], y)] M = some ((98, 0, 0), M') ∧ rT M M' 3 (fun i => zsta 9 4 (0 + i)) := by
  have hR : okL [19, 9] := ⟨by decide, by decide⟩
  obtain ⟨P, p1, p2⟩ := r_writeNext z 19 [9] D y M hR (by simp only [List.length_cons, List.length_nil]; omega) t0 (by simp only [List.length_cons, List.length_nil]; omega)
  refine ⟨P, p1, rT_congr (n := 3) p2 (fun i i0 i1 => ?_)⟩
  rcases (show i = 0 ∨ i = 1 ∨ i = 2 by omega) with rfl | rfl | rfl <;> rfl
theorem r_next_open (D : Nat) (z y : Int) (M : zM) (hD : 10 ≤ D) (t0 : 0 ≤ M 197 39) (t1 : M 197 39 ≤ 40) : ∃ M', zEm true D 266 [(30, 197, z), (1, V27 [14, 5, 16, 15], y)] M = some ((98, 0, 0), M') ∧ rT M M' 5 (fun i => zsta 9 4 (3 + i)) := by
  have hR : okL [14, 5, 16, 15] := ⟨by decide, by decide⟩
  obtain ⟨P, p1, p2⟩ := r_writeNext z 14 [5, 16, 15] D y M hR (by simp only [List.length_cons, List.length_nil]; omega) t0 (by simp only [List.length_cons, List.length_nil]; omega)
  refine ⟨P, p1, rT_congr (n := 5) p2 (fun i i0 i1 => ?_)⟩
  rcases (show i = 0 ∨ i = 1 ∨ i = 2 ∨ i = 3 ∨ i = 4 by omega) with rfl | rfl | rfl | rfl | rfl <;> rfl
theorem r_next_carried (D : Nat) (z y : Int) (M : zM) (hD : 10 ≤ D) (t0 : 0 ≤ M 197 39) (t1 : M 197 39 ≤ 40) : ∃ M', zEm true D 266 [(30, 197, z), (1, V27 [4, 5, 9, 18, 18, 1, 3], y)] M = some ((98, 0, 0), M') ∧ rT M M' 8 (fun i => zsta 9 5 (0 + i)) := by
  have hR : okL [4, 5, 9, 18, 18, 1, 3] := ⟨by decide, by decide⟩
  obtain ⟨P, p1, p2⟩ := r_writeNext z 4 [5, 9, 18, 18, 1, 3] D y M hR (by simp only [List.length_cons, List.length_nil]; omega) t0 (by simp only [List.length_cons, List.length_nil]; omega)
  refine ⟨P, p1, rT_congr (n := 8) p2 (fun i i0 i1 => ?_)⟩
  rcases (show i = 0 ∨ i = 1 ∨ i = 2 ∨ i = 3 ∨ i = 4 ∨ i = 5 ∨ i = 6 ∨ i = 7 by omega) with rfl | rfl | rfl | rfl | rfl | rfl | rfl | rfl <;> rfl
theorem r_next_lost (D : Nat) (z y : Int) (M : zM) (hD : 10 ≤ D) (t0 : 0 ≤ M 197 39) (t1 : M 197 39 ≤ 40) : ∃ M', zEm true D 266 [(30, 197, z), (1, V27 [20, 19, 15, 12], y)] M = some ((98, 0, 0), M') ∧ rT M M' 5 (fun i => zsta 9 6 (0 + i)) := by
  have hR : okL [20, 19, 15, 12] := ⟨by decide, by decide⟩
  obtain ⟨P, p1, p2⟩ := r_writeNext z 20 [19, 15, 12] D y M hR (by simp only [List.length_cons, List.length_nil]; omega) t0 (by simp only [List.length_cons, List.length_nil]; omega)
  refine ⟨P, p1, rT_congr (n := 5) p2 (fun i i0 i1 => ?_)⟩
  rcases (show i = 0 ∨ i = 1 ∨ i = 2 ∨ i = 3 ∨ i = 4 by omega) with rfl | rfl | rfl | rfl | rfl <;> rfl
theorem r_next_by5 (D : Nat) (z y : Int) (M : zM) (hD : 10 ≤ D) (t0 : 0 ≤ M 197 39) (t1 : M 197 39 ≤ 40) : ∃ M', zEm true D 266 [(30, 197, z), (1, V27 [25, 2], y)] M = some ((98, 0, 0), M') ∧ rT M M' 3 (fun i => zsta 9 5 (8 + i)) := by
  have hR : okL [25, 2] := ⟨by decide, by decide⟩
  obtain ⟨P, p1, p2⟩ := r_writeNext z 25 [2] D y M hR (by simp only [List.length_cons, List.length_nil]; omega) t0 (by simp only [List.length_cons, List.length_nil]; omega)
  refine ⟨P, p1, rT_congr (n := 3) p2 (fun i i0 i1 => ?_)⟩
  rcases (show i = 0 ∨ i = 1 ∨ i = 2 by omega) with rfl | rfl | rfl <;> rfl
theorem r_next_by6 (D : Nat) (z y : Int) (M : zM) (hD : 10 ≤ D) (t0 : 0 ≤ M 197 39) (t1 : M 197 39 ≤ 40) : ∃ M', zEm true D 266 [(30, 197, z), (1, V27 [25, 2], y)] M = some ((98, 0, 0), M') ∧ rT M M' 3 (fun i => zsta 9 6 (5 + i)) := by
  have hR : okL [25, 2] := ⟨by decide, by decide⟩
  obtain ⟨P, p1, p2⟩ := r_writeNext z 25 [2] D y M hR (by simp only [List.length_cons, List.length_nil]; omega) t0 (by simp only [List.length_cons, List.length_nil]; omega)
  refine ⟨P, p1, rT_congr (n := 3) p2 (fun i i0 i1 => ?_)⟩
  rcases (show i = 0 ∨ i = 1 ∨ i = 2 by omega) with rfl | rfl | rfl <;> rfl
def zFI (x y : Int) : Prop := zFY x y ∨ (x = 197 ∧ (y = 0 ∨ y = 39)) ∨ x = 215
def zPairI (M : zM) (cc : zO) (rc : zM → zO) : Prop := ∃ v M1 M2, cc = some ((0, v, 0), M1) ∧ rc M1 = some ((0, v, 0), M2) ∧ relI M2 ∧ (∀ x y, ¬ zFI x y → M2 x y = M x y) ∧ zPot M M2
theorem cry_end {M A B : zM} {n : Int} {F : Int → Int} (a1 : okY A) (a2 : A 54 3 = n) (a3 : ∀ i, 0 ≤ i → i < n → A (A 54 0) i = F i) (a4 : ∀ x y, ¬ zFY x y → A x y = M x y) (a5 : zPot M A) (hB : rT (zup (zup A 197 0 0) 197 39 0) B n F) (hF : ∀ i, 0 ≤ i → i < n → 0 ≤ F i ∧ F i < 128) : relI B ∧ (∀ x y, ¬ zFI x y → B x y = M x y) ∧ zPot M B := by
  obtain ⟨b1, b2, b0⟩ := hB
  have e0 : zup (zup A 197 0 0) 197 39 0 197 39 = 0 := zup_e (by omega)
  rw [e0, Int.zero_add] at b1
  have b3 : ∀ x y, x ≠ 197 → x ≠ 215 → B x y = A x y := fun x y h1 h2 => by rw [b0 x y (by omega) (by omega), zup_a h1, zup_a h1]
  obtain ⟨c1, c2, c3, c4, c5, c6⟩ := a1
  refine ⟨⟨?_, ?_, ?_, ?_, ?_, ?_, fun i i0 i1 => ?_⟩, fun x y h => ?_, ?_⟩
  · rw [b3 _ _ (by omega) (by omega)]; exact c1
  · rw [b3 _ _ (by omega) (by omega), b3 _ _ (by omega) (by omega)]; exact c2
  · rw [b3 _ _ (by omega) (by omega)]; exact c3
  · rw [b3 _ _ (by omega) (by omega)]; exact c4
  · rw [b3 _ _ (by omega) (by omega), b3 _ _ (by omega) (by omega)]; exact ⟨c5, c6⟩
  · rw [b1, b3 _ _ (by omega) (by omega), a2]
  · rw [b3 54 _ (by omega) (by omega), a2] at i1
    have h2 := b2 i i0 i1
    rw [e0, Int.zero_add] at h2
    rw [b3 54 _ (by omega) (by omega), b3 (A 54 0) _ (by omega) (by omega), a3 i i0 i1, h2]
    exact ⟨rfl, hF i i0 i1⟩
  · unfold zFI at h
    have h1 : ¬ zFY x y := fun z => h (Or.inl z)
    rw [← a4 x y h1]
    by_cases c : x = 197
    · subst c
      rw [b0 197 y (by omega) (by omega)]
      unfold zup
      rw [if_neg (by omega), if_neg (by omega)]
    · exact b3 x y c (by omega)
  · unfold zPot at a5 ⊢
    rw [b3 _ _ (by omega) (by omega), b3 _ _ (by omega) (by omega), b3 _ _ (by omega) (by omega)]
    exact a5
