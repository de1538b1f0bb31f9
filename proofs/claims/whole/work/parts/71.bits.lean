/-! copies by loops; bits by counting -/
theorem zit_cpy {M : zM} {a e b c : Int} (hb : b ≠ -1) (hs : a ≠ b ∨ c ≤ e) : ∀ n : Nat, zit (fun k U => zup U b (c + k) (U a (e + k))) n 0 M = zcpy M a e b c n
  | 0 => by
    funext x y
    unfold zit zcpy
    rw [if_neg]
    omega
  | n + 1 => by
    rw [zit_add, zit_cpy hb hs n]
    funext x y
    unfold zup
    by_cases h : x = b ∧ y = c + (0 + (n : Int)) ∧ x ≠ -1
    · rw [if_pos h]
      obtain ⟨rfl, rfl, h3⟩ := h
      have h1 : zcpy M a e x c n a (e + (0 + (n : Int))) = M a (e + (0 + (n : Int))) := by
        unfold zcpy
        rw [if_neg (by omega)]
      rw [h1]
      unfold zcpy
      rw [if_pos (by omega)]
      congr 1
      omega
    · rw [if_neg h]
      unfold zcpy
      by_cases h2 : x = b ∧ c ≤ y ∧ y < c + (n : Int) ∧ x ≠ -1
      · rw [if_pos h2, if_pos (by omega)]
      · rw [if_neg h2, if_neg (by omega)]
set_option maxRecDepth 20000 in
theorem zbits_all : ((List.range 1024).all fun s => (List.range 10).all fun h => (decide (zbit s h ≠ 0) || decide (zxor s (zshl 1 h) = zor s (zshl 1 h))) && (decide (zbit s h = 0) || decide (zxor s (zshl 1 h) = zand s (zxor (zshl 1 h) (-1)))) && decide (zor (zand s (zxor (zshl 1 h) (-1))) (zshl 1 h) = zor s (zshl 1 h)) && decide (0 ≤ zor s (zshl 1 h)) && decide (zor s (zshl 1 h) < 1024) && decide (0 ≤ zand s (zxor (zshl 1 h) (-1))) && decide (zand s (zxor (zshl 1 h) (-1)) < 1024)) = true := by decide +kernel
theorem zbits {s h : Int} (s0 : 0 ≤ s) (s1 : s < 1024) (h0 : 0 ≤ h) (h1 : h < 10) : (zbit s h = 0 → zxor s (zshl 1 h) = zor s (zshl 1 h)) ∧ (zbit s h ≠ 0 → zxor s (zshl 1 h) = zand s (zxor (zshl 1 h) (-1))) ∧ zor (zand s (zxor (zshl 1 h) (-1))) (zshl 1 h) = zor s (zshl 1 h) ∧ (0 ≤ zor s (zshl 1 h) ∧ zor s (zshl 1 h) < 1024) ∧ (0 ≤ zand s (zxor (zshl 1 h) (-1)) ∧ zand s (zxor (zshl 1 h) (-1)) < 1024) := by
  obtain ⟨i, rfl⟩ := Int.eq_ofNat_of_zero_le s0
  obtain ⟨k, rfl⟩ := Int.eq_ofNat_of_zero_le h0
  have := List.all_eq_true.mp (List.all_eq_true.mp zbits_all i (List.mem_range.mpr (by omega))) k (List.mem_range.mpr (by omega))
  simp only [Bool.and_eq_true, Bool.or_eq_true, decide_eq_true_eq] at this
  obtain ⟨⟨⟨⟨⟨⟨a1, a2⟩, a3⟩, a4⟩, a5⟩, a6⟩, a7⟩ := this
  exact ⟨fun z => a1.resolve_left (fun w => w z), fun z => a2.resolve_left z, a3, ⟨a4, a5⟩, ⟨a6, a7⟩⟩
