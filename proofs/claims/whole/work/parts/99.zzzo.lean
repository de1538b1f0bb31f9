/-! the relations hold where the law's loop begins -/
def iniQ : cS := (220, 220, 10674, inM)
theorem ini_r {f : Int → Int} {a k : Int} (ha : 0 ≤ a) : cmem f iniQ a k = clk inM a k := by
  unfold cmem
  rw [if_neg (by omega), if_neg (by omega)]
  rfl
/-- a row that nothing was written to -/
theorem clk_row {l : List (Int × Int × Int)} {a : Int} (h : l.all (fun w => decide (w.1 ≠ a)) = true) (k : Int) : clk l a k = 0 := by
  induction l with
  | nil => rfl
  | cons w l ih =>
    obtain ⟨b, j, v⟩ := w
    rw [List.all_cons, Bool.and_eq_true] at h
    have h1 := of_decide_eq_true h.1
    unfold clk
    rw [if_neg (fun z => h1 z.1.symm)]
    exact ih h.2
set_option maxRecDepth 100000 in
theorem ini_free : ([3, 31, 32, 33, 34, 35, 36, 38, 39, 40, 41, 42, 43, 44, 45, 51, 198, 204] : List Int).all (fun a => a == 51 || inM.all (fun w => decide (w.1 ≠ a))) = true := by decide +kernel
theorem ini_f {f : Int → Int} {a : Int} (h : a ∈ ([3, 31, 32, 33, 34, 35, 36, 38, 39, 40, 41, 42, 43, 44, 45, 198, 204] : List Int)) (k : Int) : cmem f iniQ a k = 0 := by
  have h2 : a ∈ ([3, 31, 32, 33, 34, 35, 36, 38, 39, 40, 41, 42, 43, 44, 45, 51, 198, 204] : List Int) ∧ a ≠ 51 ∧ 0 ≤ a := by
    simp only [List.mem_cons, List.not_mem_nil, or_false] at h ⊢
    omega
  have h3 := List.all_eq_true.mp ini_free a h2.1
  rw [Bool.or_eq_true] at h3
  rcases h3 with h3 | h3
  · exact absurd (eq_of_beq h3) h2.2.1
  · rw [ini_r h2.2.2]
    exact clk_row h3 k
/-- single places -/
def iniE : List (Int × Int × Int) := [(2, 1, 0), (197, 2, 0), (30, 6, 0), (30, 7, 0), (30, 8, 0), (30, 9, 0), (30, 10, 2), (30, 11, 1), (199, 0, 0), (199, 1, 0), (199, 2, 0), (199, 39, 0), (199, 3, 2), (199, 4, 1), (37, 8, 0), (37, 9, 0), (37, 10, 0), (199, 78, 0), (46, 5, 0), (199, 126, 0), (0, 13, 0), (197, 24, 0), (197, 10, 0), (51, 0, 0), (197, 25, -1), (51, 1, -1), (197, 26, -1), (51, 2, -1), (51, 4, 0), (197, 29, 0), (51, 6, 0), (197, 33, 0), (197, 36, -1), (51, 7, -1), (197, 37, -1), (51, 8, -1), (51, 10, 0), (197, 44, 0), (54, 0, 55), (54, 1000, 16), (54, 1, 0), (54, 3, 0), (197, 39, 0), (78, 0, 153), (78, 1, 175), (153, 3, 0), (175, 3, 0), (207, 0, 0), (207, 1, 0), (77, 0, 81), (77, 1, 90), (77, 2, 99), (77, 3, 108), (77, 4, 117), (77, 5, 126), (77, 6, 135), (77, 7, 144), (199, 7, 0), (199, 8, 0)]
set_option maxRecDepth 100000 in
theorem iniE_ok : iniE.all (fun w => decide (0 ≤ w.1) && decide (clk inM w.1 w.2.1 = w.2.2)) = true := by decide +kernel
theorem ini_e {f : Int → Int} {a k v : Int} (h : (a, k, v) ∈ iniE) : cmem f iniQ a k = v := by
  have h2 := List.all_eq_true.mp iniE_ok _ h
  rw [Bool.and_eq_true] at h2
  rw [ini_r (of_decide_eq_true h2.1)]
  exact of_decide_eq_true h2.2
set_option maxRecDepth 100000 in
theorem ini_50 : (List.range 25).all (fun k => decide (clk inM 199 (50 + (k : Int)) = 0)) = true := by decide +kernel
set_option maxRecDepth 100000 in
theorem ini_st : (List.range 9).all (fun i => (List.range 11).all (fun y => decide (clk inM 199 (rix (i : Int) (y : Int)) = if i = 6 ∨ i = 7 then -1 else if i = 0 then clk inM 37 (y : Int) else 0) || !(decide (i = 0 ∧ 8 ≤ y) || decide ((i = 1 ∨ i = 2) ∧ y < 10) || decide (3 ≤ i ∧ i ≤ 7 ∧ y < 5) || decide (i = 8 ∧ y < 2)))) = true := by decide +kernel
theorem ini_S {f : Int → Int} : zvS (cmem f iniQ) 37 = fun _ _ => 0 := by
  funext i y
  unfold zvS
  by_cases hd : sdom i y
  · rw [zif_t hd]
    unfold sdom at hd
    by_cases hi : i = 0
    · subst hi
      rw [Int.add_zero]
      rcases (show y = 8 ∨ y = 9 ∨ y = 10 by omega) with rfl | rfl | rfl
      · exact ini_e (by decide +kernel)
      · exact ini_e (by decide +kernel)
      · exact ini_e (by decide +kernel)
    · exact ini_f (by
        simp only [List.mem_cons, List.not_mem_nil, or_false]
        omega) y
  · rw [zif_f hd]
theorem ini_G {f : Int → Int} : okG (zvG (cmem f iniQ) 30) := by
  have e7 : cmem f iniQ 30 7 = 0 := ini_e (by decide +kernel)
  unfold okG
  rw [zvG_0 (by omega) (by omega), zvG_0 (by omega) (by omega), zvG_0 (by omega) (by omega), zvG_0 (by omega) (by omega), zvG_0 (by omega) (by omega), zvG_0 (by omega) (by omega), ini_e (f := f) (a := 30) (k := 6) (v := 0) (by decide +kernel), e7, ini_e (f := f) (a := 30) (k := 8) (v := 0) (by decide +kernel), ini_e (f := f) (a := 30) (k := 9) (v := 0) (by decide +kernel), ini_e (f := f) (a := 30) (k := 10) (v := 2) (by decide +kernel), ini_e (f := f) (a := 30) (k := 11) (v := 1) (by decide +kernel)]
  refine ⟨by omega, by omega, by omega, by omega, by omega, by omega, fun k h0 h1 => by omega, fun k h0 h1 => ?_, fun k h0 h1 => ?_⟩
  · rw [zvG_5 h0 h1, ini_f (a := 30 + 5) (by decide +kernel)]; omega
  · rw [zvG_6 h0 h1, ini_f (a := 30 + 6) (by decide +kernel)]; omega
theorem okS_0 : okS (fun _ _ => 0) := by
  unfold okS
  refine ⟨by dsimp only; omega, by dsimp only; omega, by dsimp only; omega, fun _ _ _ => by dsimp only; omega, fun _ _ _ => by dsimp only; omega, fun _ _ _ => by dsimp only; omega, fun _ _ _ => by dsimp only; omega, fun _ _ _ => by dsimp only; omega, fun _ _ _ => by dsimp only; omega, fun _ _ _ => by dsimp only; omega, fun _ _ _ => by dsimp only; omega⟩
theorem ini_Rel {f : Int → Int} : Rel (cmem f iniQ) := by
  have e := @ini_e f
  have z := @ini_f f
  have e7 : cmem f iniQ 30 7 = 0 := e (by decide +kernel)
  have hG0 := @ini_G f
  refine ⟨⟨?_, ?_, fun i i0 i1 => ?_⟩, Or.inr ⟨⟨⟨?_, hG0⟩, ⟨?_, ?_, ?_⟩, ⟨fun k k0 k1 => ?_, fun k k0 k1 => ?_, fun k k0 k1 => ?_⟩, Or.inl ⟨?_, ?_⟩, ?_, ?_, ?_⟩, ?_, ?_, ?_, fun i i0 i1 => ?_⟩, ?_, ?_, ?_⟩
  · rw [e (a := 2) (k := 1) (v := 0) (by decide +kernel)]; omega
  · rw [e (a := 2) (k := 1) (v := 0) (by decide +kernel), e (a := 197) (k := 2) (v := 0) (by decide +kernel)]
  · rw [z (a := 198) (by decide +kernel), z (a := 3) (by decide +kernel)]; omega
  · -- the valley
    have r1 : cmem f iniQ 199 1 = 0 := e (by decide +kernel)
    funext i y
    unfold zRG zvG
    rw [r1, e7]
    by_cases hd : gdom 0 i y
    · rw [zif_t hd, zif_t hd]
      unfold gdom at hd
      by_cases hi : i = 0
      · subst hi
        rw [Int.add_zero]
        rcases (show y = 6 ∨ y = 7 ∨ y = 8 ∨ y = 9 ∨ y = 10 ∨ y = 11 by omega) with rfl | rfl | rfl | rfl | rfl | rfl
        · rw [e (a := 30) (k := 6) (v := 0) (by decide +kernel)]; exact e (a := 199) (k := 0) (by decide +kernel)
        · rw [e7]; exact r1
        · rw [e (a := 30) (k := 8) (v := 0) (by decide +kernel)]; exact e (a := 199) (k := 2) (by decide +kernel)
        · rw [e (a := 30) (k := 9) (v := 0) (by decide +kernel)]; exact e (a := 199) (k := 39) (by decide +kernel)
        · rw [e (a := 30) (k := 10) (v := 2) (by decide +kernel)]; exact e (a := 199) (k := 3) (by decide +kernel)
        · rw [e (a := 30) (k := 11) (v := 1) (by decide +kernel)]; exact e (a := 199) (k := 4) (by decide +kernel)
      · by_cases h5 : i = 5
        · subst h5
          rw [z (a := 30 + 5) (by decide +kernel)]
          show cmem f iniQ 199 (50 + y) = 0
          rw [ini_r (by omega)]
          obtain ⟨n, rfl⟩ := Int.eq_ofNat_of_zero_le (show 0 ≤ y by omega)
          exact of_decide_eq_true (List.all_eq_true.mp ini_50 n (List.mem_range.mpr (by omega)))
        · obtain ⟨rfl, hy⟩ : i = 6 ∧ (y = 0 ∨ y = 1) := by omega
          rw [z (a := 30 + 6) (by decide +kernel)]
          rcases hy with rfl | rfl
          · exact e (a := 199) (k := 7) (by decide +kernel)
          · exact e (a := 199) (k := 8) (by decide +kernel)
    · rw [zif_f hd, zif_f hd]
  · -- the state
    have hS : ∀ i y, zvS (cmem f iniQ) 37 i y = 0 := fun i y => by rw [ini_S]
    funext i y
    unfold zRS
    by_cases hd : sdom i y
    · rw [zif_t hd, ini_r (by omega)]
      have hd2 := hd
      unfold sdom at hd
      obtain ⟨n, rfl⟩ := Int.eq_ofNat_of_zero_le (show 0 ≤ i by omega)
      obtain ⟨m, rfl⟩ := Int.eq_ofNat_of_zero_le (show 0 ≤ y by omega)
      have h1 := List.all_eq_true.mp (List.all_eq_true.mp ini_st n (List.mem_range.mpr (by omega))) m (List.mem_range.mpr (by omega))
      have h2 : (decide (n = 0 ∧ 8 ≤ m) || decide ((n = 1 ∨ n = 2) ∧ m < 10) || decide (3 ≤ n ∧ n ≤ 7 ∧ m < 5) || decide (n = 8 ∧ m < 2)) = true := by
        simp only [Bool.or_eq_true, decide_eq_true_eq]
        omega
      rw [h2, Bool.not_true, Bool.or_false] at h1
      rw [of_decide_eq_true h1]
      by_cases c : n = 6 ∨ n = 7
      · rw [if_pos c]
        unfold sgS
        rw [zif_t (by omega)]
      · rw [if_neg c, sg_o (by omega) (by omega), hS]
        split
        · rename_i hn
          subst hn
          have h3 := hS 0 (m : Int)
          rw [zvS_0 (by omega) (by omega), ini_r (by omega)] at h3
          exact h3
        · rfl
    · rw [zif_f hd]
      unfold sgS
      rw [zif_f (fun c => hd (by unfold sdom; omega)), hS]
  · rw [ini_S]
    exact ⟨⟨okS_0, fun k _ _ => ⟨rfl, rfl⟩, fun k _ _ h => absurd rfl h⟩, fun k _ _ => rfl⟩
  · exact e (by decide +kernel)
  · rw [e (a := 30) (k := 6) (v := 0) (by decide +kernel)] at k1; omega
  · rw [e7] at k1; omega
  · rw [e (a := 30) (k := 8) (v := 0) (by decide +kernel)] at k1; omega
  · exact e (by decide +kernel)
  · exact e (by decide +kernel)
  · exact e (by decide +kernel)
  · exact e7
  · exact e (by decide +kernel)
  · rw [e (a := 0) (k := 13) (v := 0) (by decide +kernel)]; omega
  · rw [e (a := 0) (k := 13) (v := 0) (by decide +kernel)]; exact e (by decide +kernel)
  · have h : ∀ i : Int, 0 ≤ i → i < 8 → cmem f iniQ 77 i = 81 + 9 * i := fun i i0 i1 => by
      rcases (show i = 0 ∨ i = 1 ∨ i = 2 ∨ i = 3 ∨ i = 4 ∨ i = 5 ∨ i = 6 ∨ i = 7 by omega) with rfl | rfl | rfl | rfl | rfl | rfl | rfl | rfl <;> exact e (by decide +kernel)
    refine ⟨fun i i0 i1 => ?_, fun i j i0 h1 j1 => ?_⟩
    · rw [h i i0 i1]; omega
    · rw [h i i0 (by omega), h j (by omega) j1]; omega
  · rw [e (a := 0) (k := 13) (v := 0) (by decide +kernel)] at i1; omega
  · unfold relH
    rw [e (a := 197) (k := 10) (v := 0) (by decide +kernel), e (a := 51) (k := 0) (v := 0) (by decide +kernel), e (a := 197) (k := 25) (v := -1) (by decide +kernel), e (a := 51) (k := 1) (v := -1) (by decide +kernel), e (a := 197) (k := 26) (v := -1) (by decide +kernel), e (a := 51) (k := 2) (v := -1) (by decide +kernel), e (a := 51) (k := 4) (v := 0) (by decide +kernel), e (a := 197) (k := 29) (v := 0) (by decide +kernel), e (a := 51) (k := 6) (v := 0) (by decide +kernel), e (a := 197) (k := 33) (v := 0) (by decide +kernel), e (a := 197) (k := 36) (v := -1) (by decide +kernel), e (a := 51) (k := 7) (v := -1) (by decide +kernel), e (a := 197) (k := 37) (v := -1) (by decide +kernel), e (a := 51) (k := 8) (v := -1) (by decide +kernel), e (a := 51) (k := 10) (v := 0) (by decide +kernel), e (a := 197) (k := 44) (v := 0) (by decide +kernel)]
    exact ⟨rfl, rfl, rfl, ⟨by omega, rfl, fun h h0 h1 => by omega⟩, ⟨by omega, rfl, fun h h0 h1 => by omega⟩, rfl, rfl, Or.inl rfl, rfl, fun h => by omega⟩
  · have h0 : cmem f iniQ (-1) 0 = 220 := rfl
    have h3 : cmem f iniQ 54 3 = 0 := e (by decide +kernel)
    refine ⟨by rw [h0]; omega, Or.inl (e (by decide +kernel)), Or.inl (e (by decide +kernel)), e (by decide +kernel), ?_, ?_, fun i i0 i1 => ?_⟩
    · rw [h3, e (a := 54) (k := 1000) (v := 16) (by decide +kernel)]; omega
    · rw [h3]; exact e (by decide +kernel)
    · rw [h3] at i1; omega
  · intro k k0 k1
    rcases (show k = 0 ∨ k = 1 by omega) with rfl | rfl
    · exact ⟨e (by decide +kernel), Or.inl ⟨e (a := 153) (by decide +kernel), e (by decide +kernel)⟩⟩
    · exact ⟨e (by decide +kernel), Or.inl ⟨e (a := 175) (by decide +kernel), e (by decide +kernel)⟩⟩
