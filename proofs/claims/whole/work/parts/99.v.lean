/-! texts put behind, in the class -/
theorem zs8_small {x : Int} (h0 : 0 ≤ x) (h1 : x < 128) : zb8 x = x := by
  have h : ∀ n : Fin 128, zb8 (n.val : Int) = (n.val : Int) := by decide +kernel
  obtain ⟨n, rfl⟩ := Int.eq_ofNat_of_zero_le h0
  exact h ⟨n, by omega⟩
/-- n places with f's values were put behind the class's text -/
def cT (M M' : zM) (n : Int) (f : Int → Int) : Prop := okY M' ∧ M' 54 3 = M 54 3 + n ∧ (∀ i, 0 ≤ i → i < M 54 3 → M' (M' 54 0) i = M (M 54 0) i) ∧ (∀ i, 0 ≤ i → i < n → M' (M' 54 0) (M 54 3 + i) = f i) ∧ (∀ x y, ¬ zFY x y → M' x y = M x y) ∧ zPot M M'
theorem cT_comp {M N P : zM} {n k : Int} {f g : Int → Int} (n0 : 0 ≤ n) (m0 : 0 ≤ M 54 3) (h1 : cT M N n f) (h2 : cT N P k g) : cT M P (n + k) (fun i => if i < n then f i else g (i - n)) := by
  obtain ⟨a1, a2, a3, a4, a5, a6⟩ := h1
  obtain ⟨b1, b2, b3, b4, b5, b6⟩ := h2
  refine ⟨b1, by omega, fun i i0 i1 => by rw [b3 i i0 (by omega), a3 i i0 i1], fun i i0 i1 => ?_, fun x y h => by rw [b5 x y h, a5 x y h], zPot_trans a6 b6⟩
  dsimp only
  by_cases c : i < n
  · rw [if_pos c, b3 _ (by omega) (by omega), a4 i i0 c]
  · rw [if_neg c]
    have := b4 (i - n) (by omega) (by omega)
    rw [a2] at this
    rw [← this]
    congr 1
    omega
theorem cT_congr {M M' : zM} {n : Int} {f g : Int → Int} (h : cT M M' n f) (e : ∀ i, 0 ≤ i → i < n → f i = g i) : cT M M' n g := by
  obtain ⟨a1, a2, a3, a4, a5, a6⟩ := h
  exact ⟨a1, a2, a3, fun i i0 i1 => (a4 i i0 i1).trans (e i i0 i1), a5, a6⟩
theorem cT_wr {M P : zM} {k m : Int} {f : Int → Int} (hY : okY M) (hm : m = M 54 3 + k) (k0 : 0 ≤ k) (m1 : m ≤ 34) (h1 : P 54 3 = m) (h2 : ∀ i, 0 ≤ i → i < k → P (cEns M m 54 0) (M 54 3 + i) = f i) (h3 : ∀ x y, ¬ (x = 54 ∧ y = 3) → ¬ (x = cEns M m 54 0 ∧ M 54 3 ≤ y ∧ y < M 54 3 + k) → P x y = cEns M m x y) : cT M P k f := by
  obtain ⟨k1, k2, k3, k4, k5, k6⟩ := cEns_ok (m := m) hY m1
  obtain ⟨a1, a2, a3, a4, a5, a6⟩ := k1
  have b5 := hY.2.2.2.2.1
  generalize cEns M m = N at *
  have p1 : ∀ y, y ≠ 3 → P 54 y = N 54 y := fun y h => h3 _ _ (by omega) (by omega)
  have p3 : ∀ y, P (-1) y = N (-1) y := fun y => h3 _ _ (by omega) (by omega)
  refine ⟨⟨?_, ?_, ?_, ?_, ?_⟩, ?_, fun i i0 i1 => ?_, fun i i0 i1 => ?_, fun x y h => ?_, ?_⟩
  · rw [p3]; exact a1
  · rw [p1 _ (by omega), p3]; exact a2
  · rw [p1 _ (by omega)]; exact a3
  · rw [p1 _ (by omega)]; exact a4
  · rw [h1, p1 1000 (by omega)]; omega
  · rw [h1, hm]
  · rw [p1 _ (by omega), h3 _ _ (by omega) (by omega)]
    exact k4 i i0 i1
  · rw [p1 _ (by omega)]
    exact h2 i i0 i1
  · rw [← k5 x y h]
    unfold zFY at h
    exact h3 _ _ (by omega) (by omega)
  · unfold zPot at k6 ⊢
    rw [p3, p3, p1 _ (by omega)]
    exact k6
theorem m309 (ph : Bool) (d : Nat) (a x0 p0 y0 : Int) (M : zM) : zEm ph (d + 1) 309 [(31, a, x0), (0, p0, y0)] M = zEv ph d 309 0 [(31, a, x0), (0, p0, y0)] [] M := rfl
theorem e309_0 (ph : Bool) (d : Nat) (L st : List zV) (M : zM) : zEv ph d 309 0 L st M = zcont ph d 309 (zstep ph (zEm ph d) 4 1 0 [0] L st M) := zEv_step rfl
theorem e309_1 (ph : Bool) (d : Nat) (L st : List zV) (M : zM) : zEv ph d 309 1 L st M = zcont ph d 309 (zstep ph (zEm ph d) 4 2 0 [0] L st M) := zEv_step rfl
theorem e309_2 (ph : Bool) (d : Nat) (L st : List zV) (M : zM) : zEv ph d 309 2 L st M = zcont ph d 309 (zstep ph (zEm ph d) 60 5 0 [31, 3] L st M) := zEv_step rfl
theorem e309_5 (ph : Bool) (d : Nat) (L st : List zV) (M : zM) : zEv ph d 309 5 L st M = zcont ph d 309 (zstep ph (zEm ph d) 0 6 0 [1] L st M) := zEv_step rfl
theorem e309_6 (ph : Bool) (d : Nat) (L st : List zV) (M : zM) : zEv ph d 309 6 L st M = zcont ph d 309 (zstep ph (zEm ph d) 10 7 0 [] L st M) := zEv_step rfl
theorem e309_7 (ph : Bool) (d : Nat) (L st : List zV) (M : zM) : zEv ph d 309 7 L st M = zcont ph d 309 (zstep ph (zEm ph d) 70 10 302 [2, 0, 31] L st M) := zEv_step rfl
theorem e309_10 (ph : Bool) (d : Nat) (L st : List zV) (M : zM) : zEv ph d 309 10 L st M = zcont ph d 309 (zstep ph (zEm ph d) 4 11 0 [0] L st M) := zEv_step rfl
theorem e309_11 (ph : Bool) (d : Nat) (L st : List zV) (M : zM) : zEv ph d 309 11 L st M = zcont ph d 309 (zstep ph (zEm ph d) 70 14 311 [1, 1, 31] L st M) := zEv_step rfl
theorem e309_14 (ph : Bool) (d : Nat) (L st : List zV) (M : zM) : zEv ph d 309 14 L st M = zcont ph d 309 (zstep ph (zEm ph d) 40 17 45 [] L st M) := zEv_step rfl
theorem e309_17 (ph : Bool) (d : Nat) (L st : List zV) (M : zM) : zEv ph d 309 17 L st M = zcont ph d 309 (zstep ph (zEm ph d) 2 18 0 [1] L st M) := zEv_step rfl
theorem e309_18 (ph : Bool) (d : Nat) (L st : List zV) (M : zM) : zEv ph d 309 18 L st M = zcont ph d 309 (zstep ph (zEm ph d) 70 21 340 [1, 1, -1] L st M) := zEv_step rfl
theorem e309_21 (ph : Bool) (d : Nat) (L st : List zV) (M : zM) : zEv ph d 309 21 L st M = zcont ph d 309 (zstep ph (zEm ph d) 40 24 45 [] L st M) := zEv_step rfl
theorem e309_24 (ph : Bool) (d : Nat) (L st : List zV) (M : zM) : zEv ph d 309 24 L st M = zcont ph d 309 (zstep ph (zEm ph d) 4 25 0 [0] L st M) := zEv_step rfl
theorem e309_25 (ph : Bool) (d : Nat) (L st : List zV) (M : zM) : zEv ph d 309 25 L st M = zcont ph d 309 (zstep ph (zEm ph d) 64 28 0 [31, 0, 13] L st M) := zEv_step rfl
theorem e309_28 (ph : Bool) (d : Nat) (L st : List zV) (M : zM) : zEv ph d 309 28 L st M = zcont ph d 309 (zstep ph (zEm ph d) 4 29 0 [0] L st M) := zEv_step rfl
theorem e309_29 (ph : Bool) (d : Nat) (L st : List zV) (M : zM) : zEv ph d 309 29 L st M = zcont ph d 309 (zstep ph (zEm ph d) 36 30 0 [] L st M) := zEv_step rfl
theorem e309_30 (ph : Bool) (d : Nat) (L st : List zV) (M : zM) : zEv ph d 309 30 L st M = zcont ph d 309 (zstep ph (zEm ph d) 60 33 0 [31, 3] L st M) := zEv_step rfl
theorem e309_33 (ph : Bool) (d : Nat) (L st : List zV) (M : zM) : zEv ph d 309 33 L st M = zcont ph d 309 (zstep ph (zEm ph d) 39 34 0 [] L st M) := zEv_step rfl
theorem e309_34 (ph : Bool) (d : Nat) (L st : List zV) (M : zM) : zEv ph d 309 34 L st M = zcont ph d 309 (zstep ph (zEm ph d) 0 35 0 [1] L st M) := zEv_step rfl
theorem e309_35 (ph : Bool) (d : Nat) (L st : List zV) (M : zM) : zEv ph d 309 35 L st M = zcont ph d 309 (zstep ph (zEm ph d) 10 36 0 [] L st M) := zEv_step rfl
theorem e309_36 (ph : Bool) (d : Nat) (L st : List zV) (M : zM) : zEv ph d 309 36 L st M = zcont ph d 309 (zstep ph (zEm ph d) 65 39 0 [31, 3] L st M) := zEv_step rfl
theorem e309_39 (ph : Bool) (d : Nat) (L st : List zV) (M : zM) : zEv ph d 309 39 L st M = zcont ph d 309 (zstep ph (zEm ph d) 2 40 0 [1] L st M) := zEv_step rfl
theorem e309_40 (ph : Bool) (d : Nat) (L st : List zV) (M : zM) : zEv ph d 309 40 L st M = zcont ph d 309 (zstep ph (zEm ph d) 31 41 0 [] L st M) := zEv_step rfl
theorem e309_41 (ph : Bool) (d : Nat) (L st : List zV) (M : zM) : zEv ph d 309 41 L st M = zcont ph d 309 (zstep ph (zEm ph d) 91 42 0 [] L st M) := zEv_step rfl
theorem e309_42 (ph : Bool) (d : Nat) (L st : List zV) (M : zM) : zEv ph d 309 42 L st M = zcont ph d 309 (zstep ph (zEm ph d) 52 45 75 [] L st M) := zEv_step rfl
theorem e309_45 (ph : Bool) (d : Nat) (L st : List zV) (M : zM) : zEv ph d 309 45 L st M = zcont ph d 309 (zstep ph (zEm ph d) 4 46 0 [0] L st M) := zEv_step rfl
theorem e309_46 (ph : Bool) (d : Nat) (L st : List zV) (M : zM) : zEv ph d 309 46 L st M = zcont ph d 309 (zstep ph (zEm ph d) 70 49 311 [1, 1, 31] L st M) := zEv_step rfl
theorem e309_49 (ph : Bool) (d : Nat) (L st : List zV) (M : zM) : zEv ph d 309 49 L st M = zcont ph d 309 (zstep ph (zEm ph d) 40 52 56 [] L st M) := zEv_step rfl
theorem e309_52 (ph : Bool) (d : Nat) (L st : List zV) (M : zM) : zEv ph d 309 52 L st M = zcont ph d 309 (zstep ph (zEm ph d) 4 53 0 [0] L st M) := zEv_step rfl
theorem e309_53 (ph : Bool) (d : Nat) (L st : List zV) (M : zM) : zEv ph d 309 53 L st M = zcont ph d 309 (zstep ph (zEm ph d) 70 56 304 [1, 0, 31] L st M) := zEv_step rfl
theorem e309_56 (ph : Bool) (d : Nat) (L st : List zV) (M : zM) : zEv ph d 309 56 L st M = zcont ph d 309 (zstep ph (zEm ph d) 4 57 0 [0] L st M) := zEv_step rfl
theorem e309_57 (ph : Bool) (d : Nat) (L st : List zV) (M : zM) : zEv ph d 309 57 L st M = zcont ph d 309 (zstep ph (zEm ph d) 64 60 0 [31, 0, 13] L st M) := zEv_step rfl
theorem e309_60 (ph : Bool) (d : Nat) (L st : List zV) (M : zM) : zEv ph d 309 60 L st M = zcont ph d 309 (zstep ph (zEm ph d) 4 61 0 [0] L st M) := zEv_step rfl
theorem e309_61 (ph : Bool) (d : Nat) (L st : List zV) (M : zM) : zEv ph d 309 61 L st M = zcont ph d 309 (zstep ph (zEm ph d) 36 62 0 [] L st M) := zEv_step rfl
theorem e309_62 (ph : Bool) (d : Nat) (L st : List zV) (M : zM) : zEv ph d 309 62 L st M = zcont ph d 309 (zstep ph (zEm ph d) 60 65 0 [31, 3] L st M) := zEv_step rfl
theorem e309_65 (ph : Bool) (d : Nat) (L st : List zV) (M : zM) : zEv ph d 309 65 L st M = zcont ph d 309 (zstep ph (zEm ph d) 39 66 0 [] L st M) := zEv_step rfl
theorem e309_66 (ph : Bool) (d : Nat) (L st : List zV) (M : zM) : zEv ph d 309 66 L st M = zcont ph d 309 (zstep ph (zEm ph d) 0 67 0 [1] L st M) := zEv_step rfl
theorem e309_67 (ph : Bool) (d : Nat) (L st : List zV) (M : zM) : zEv ph d 309 67 L st M = zcont ph d 309 (zstep ph (zEm ph d) 10 68 0 [] L st M) := zEv_step rfl
theorem e309_68 (ph : Bool) (d : Nat) (L st : List zV) (M : zM) : zEv ph d 309 68 L st M = zcont ph d 309 (zstep ph (zEm ph d) 65 71 0 [31, 3] L st M) := zEv_step rfl
theorem e309_71 (ph : Bool) (d : Nat) (L st : List zV) (M : zM) : zEv ph d 309 71 L st M = zcont ph d 309 (zstep ph (zEm ph d) 2 72 0 [1] L st M) := zEv_step rfl
theorem e309_72 (ph : Bool) (d : Nat) (L st : List zV) (M : zM) : zEv ph d 309 72 L st M = zcont ph d 309 (zstep ph (zEm ph d) 70 75 356 [3, 0, -1] L st M) := zEv_step rfl
theorem e309_75 (ph : Bool) (d : Nat) (L st : List zV) (M : zM) : zEv ph d 309 75 L st M = zcont ph d 309 (zstep ph (zEm ph d) 4 76 0 [0] L st M) := zEv_step rfl
theorem e309_76 (ph : Bool) (d : Nat) (L st : List zV) (M : zM) : zEv ph d 309 76 L st M = zcont ph d 309 (zstep ph (zEm ph d) 82 77 0 [] L st M) := zEv_step rfl
theorem m340 (ph : Bool) (d : Nat) (p0 y0 : Int) (M : zM) : zEm ph (d + 1) 340 [(0, p0, y0)] M = zEv ph d 340 0 [(0, p0, y0)] [] M := rfl
theorem e340_0 (ph : Bool) (d : Nat) (L st : List zV) (M : zM) : zEv ph d 340 0 L st M = zcont ph d 340 (zstep ph (zEm ph d) 2 1 0 [0] L st M) := zEv_step rfl
theorem e340_1 (ph : Bool) (d : Nat) (L st : List zV) (M : zM) : zEv ph d 340 1 L st M = zcont ph d 340 (zstep ph (zEm ph d) 0 4 0 [255] L st M) := zEv_step rfl
theorem e340_4 (ph : Bool) (d : Nat) (L st : List zV) (M : zM) : zEv ph d 340 4 L st M = zcont ph d 340 (zstep ph (zEm ph d) 50 7 11 [] L st M) := zEv_step rfl
theorem e340_7 (ph : Bool) (d : Nat) (L st : List zV) (M : zM) : zEv ph d 340 7 L st M = zcont ph d 340 (zstep ph (zEm ph d) 0 8 0 [1] L st M) := zEv_step rfl
theorem e340_8 (ph : Bool) (d : Nat) (L st : List zV) (M : zM) : zEv ph d 340 8 L st M = zcont ph d 340 (zstep ph (zEm ph d) 52 11 12 [] L st M) := zEv_step rfl
theorem e340_11 (ph : Bool) (d : Nat) (L st : List zV) (M : zM) : zEv ph d 340 11 L st M = zcont ph d 340 (zstep ph (zEm ph d) 0 12 0 [0] L st M) := zEv_step rfl
theorem e340_12 (ph : Bool) (d : Nat) (L st : List zV) (M : zM) : zEv ph d 340 12 L st M = zcont ph d 340 (zstep ph (zEm ph d) 80 13 0 [0, 1] L st M) := zEv_step rfl
theorem m335 (ph : Bool) (d : Nat) (a x0 p0 y0 : Int) (M : zM) : zEm ph (d + 1) 335 [(31, a, x0), (0, p0, y0)] M = zEv ph d 335 0 [(31, a, x0), (0, p0, y0)] [] M := rfl
theorem e335_0 (ph : Bool) (d : Nat) (L st : List zV) (M : zM) : zEv ph d 335 0 L st M = zcont ph d 335 (zstep ph (zEm ph d) 4 1 0 [0] L st M) := zEv_step rfl
theorem e335_1 (ph : Bool) (d : Nat) (L st : List zV) (M : zM) : zEv ph d 335 1 L st M = zcont ph d 335 (zstep ph (zEm ph d) 2 2 0 [1] L st M) := zEv_step rfl
theorem e335_2 (ph : Bool) (d : Nat) (L st : List zV) (M : zM) : zEv ph d 335 2 L st M = zcont ph d 335 (zstep ph (zEm ph d) 70 5 309 [2, 1, 31] L st M) := zEv_step rfl
theorem e335_5 (ph : Bool) (d : Nat) (L st : List zV) (M : zM) : zEv ph d 335 5 L st M = zcont ph d 335 (zstep ph (zEm ph d) 38 6 0 [] L st M) := zEv_step rfl
theorem e335_6 (ph : Bool) (d : Nat) (L st : List zV) (M : zM) : zEv ph d 335 6 L st M = zcont ph d 335 (zstep ph (zEm ph d) 4 7 0 [0] L st M) := zEv_step rfl
theorem e335_7 (ph : Bool) (d : Nat) (L st : List zV) (M : zM) : zEv ph d 335 7 L st M = zcont ph d 335 (zstep ph (zEm ph d) 82 8 0 [] L st M) := zEv_step rfl
theorem m307 (ph : Bool) (d : Nat) (a x0 p0 y0 : Int) (M : zM) : zEm ph (d + 1) 307 [(31, a, x0), (8, p0, y0)] M = zEv ph d 307 0 [(31, a, x0), (8, p0, y0), (3, 0, 0)] [] M := rfl
theorem e307_0 (ph : Bool) (d : Nat) (L st : List zV) (M : zM) : zEv ph d 307 0 L st M = zcont ph d 307 (zstep ph (zEm ph d) 4 1 0 [1] L st M) := zEv_step rfl
theorem e307_1 (ph : Bool) (d : Nat) (L st : List zV) (M : zM) : zEv ph d 307 1 L st M = zcont ph d 307 (zstep ph (zEm ph d) 55 4 9 [] L st M) := zEv_step rfl
theorem e307_4 (ph : Bool) (d : Nat) (L st : List zV) (M : zM) : zEv ph d 307 4 L st M = zcont ph d 307 (zstep ph (zEm ph d) 4 5 0 [0] L st M) := zEv_step rfl
theorem e307_5 (ph : Bool) (d : Nat) (L st : List zV) (M : zM) : zEv ph d 307 5 L st M = zcont ph d 307 (zstep ph (zEm ph d) 70 8 308 [1, 1, 31] L st M) := zEv_step rfl
theorem e307_8 (ph : Bool) (d : Nat) (L st : List zV) (M : zM) : zEv ph d 307 8 L st M = zcont ph d 307 (zstep ph (zEm ph d) 82 9 0 [] L st M) := zEv_step rfl
theorem e307_9 (ph : Bool) (d : Nat) (L st : List zV) (M : zM) : zEv ph d 307 9 L st M = zcont ph d 307 (zstep ph (zEm ph d) 4 10 0 [1] L st M) := zEv_step rfl
theorem e307_10 (ph : Bool) (d : Nat) (L st : List zV) (M : zM) : zEv ph d 307 10 L st M = zcont ph d 307 (zstep ph (zEm ph d) 70 13 324 [1, 1, 8] L st M) := zEv_step rfl
theorem e307_13 (ph : Bool) (d : Nat) (L st : List zV) (M : zM) : zEv ph d 307 13 L st M = zcont ph d 307 (zstep ph (zEm ph d) 5 14 0 [2] L st M) := zEv_step rfl
theorem e307_14 (ph : Bool) (d : Nat) (L st : List zV) (M : zM) : zEv ph d 307 14 L st M = zcont ph d 307 (zstep ph (zEm ph d) 4 15 0 [0] L st M) := zEv_step rfl
theorem e307_15 (ph : Bool) (d : Nat) (L st : List zV) (M : zM) : zEv ph d 307 15 L st M = zcont ph d 307 (zstep ph (zEm ph d) 4 16 0 [0] L st M) := zEv_step rfl
theorem e307_16 (ph : Bool) (d : Nat) (L st : List zV) (M : zM) : zEv ph d 307 16 L st M = zcont ph d 307 (zstep ph (zEm ph d) 60 19 0 [31, 3] L st M) := zEv_step rfl
theorem e307_19 (ph : Bool) (d : Nat) (L st : List zV) (M : zM) : zEv ph d 307 19 L st M = zcont ph d 307 (zstep ph (zEm ph d) 2 20 0 [2] L st M) := zEv_step rfl
theorem e307_20 (ph : Bool) (d : Nat) (L st : List zV) (M : zM) : zEv ph d 307 20 L st M = zcont ph d 307 (zstep ph (zEm ph d) 10 21 0 [] L st M) := zEv_step rfl
theorem e307_21 (ph : Bool) (d : Nat) (L st : List zV) (M : zM) : zEv ph d 307 21 L st M = zcont ph d 307 (zstep ph (zEm ph d) 70 24 302 [2, 0, 31] L st M) := zEv_step rfl
theorem e307_24 (ph : Bool) (d : Nat) (L st : List zV) (M : zM) : zEv ph d 307 24 L st M = zcont ph d 307 (zstep ph (zEm ph d) 4 25 0 [0] L st M) := zEv_step rfl
theorem e307_25 (ph : Bool) (d : Nat) (L st : List zV) (M : zM) : zEv ph d 307 25 L st M = zcont ph d 307 (zstep ph (zEm ph d) 4 26 0 [0] L st M) := zEv_step rfl
theorem e307_26 (ph : Bool) (d : Nat) (L st : List zV) (M : zM) : zEv ph d 307 26 L st M = zcont ph d 307 (zstep ph (zEm ph d) 60 29 0 [31, 3] L st M) := zEv_step rfl
theorem e307_29 (ph : Bool) (d : Nat) (L st : List zV) (M : zM) : zEv ph d 307 29 L st M = zcont ph d 307 (zstep ph (zEm ph d) 4 30 0 [1] L st M) := zEv_step rfl
theorem e307_30 (ph : Bool) (d : Nat) (L st : List zV) (M : zM) : zEv ph d 307 30 L st M = zcont ph d 307 (zstep ph (zEm ph d) 70 33 313 [3, 0, 31] L st M) := zEv_step rfl
theorem e307_33 (ph : Bool) (d : Nat) (L st : List zV) (M : zM) : zEv ph d 307 33 L st M = zcont ph d 307 (zstep ph (zEm ph d) 4 34 0 [0] L st M) := zEv_step rfl
theorem e307_34 (ph : Bool) (d : Nat) (L st : List zV) (M : zM) : zEv ph d 307 34 L st M = zcont ph d 307 (zstep ph (zEm ph d) 36 35 0 [] L st M) := zEv_step rfl
theorem e307_35 (ph : Bool) (d : Nat) (L st : List zV) (M : zM) : zEv ph d 307 35 L st M = zcont ph d 307 (zstep ph (zEm ph d) 60 38 0 [31, 3] L st M) := zEv_step rfl
theorem e307_38 (ph : Bool) (d : Nat) (L st : List zV) (M : zM) : zEv ph d 307 38 L st M = zcont ph d 307 (zstep ph (zEm ph d) 2 39 0 [2] L st M) := zEv_step rfl
theorem e307_39 (ph : Bool) (d : Nat) (L st : List zV) (M : zM) : zEv ph d 307 39 L st M = zcont ph d 307 (zstep ph (zEm ph d) 10 40 0 [] L st M) := zEv_step rfl
theorem e307_40 (ph : Bool) (d : Nat) (L st : List zV) (M : zM) : zEv ph d 307 40 L st M = zcont ph d 307 (zstep ph (zEm ph d) 65 43 0 [31, 3] L st M) := zEv_step rfl
theorem e307_43 (ph : Bool) (d : Nat) (L st : List zV) (M : zM) : zEv ph d 307 43 L st M = zcont ph d 307 (zstep ph (zEm ph d) 4 44 0 [0] L st M) := zEv_step rfl
theorem e307_44 (ph : Bool) (d : Nat) (L st : List zV) (M : zM) : zEv ph d 307 44 L st M = zcont ph d 307 (zstep ph (zEm ph d) 82 45 0 [] L st M) := zEv_step rfl
theorem m334 (ph : Bool) (d : Nat) (a x0 p0 y0 : Int) (M : zM) : zEm ph (d + 1) 334 [(31, a, x0), (8, p0, y0)] M = zEv ph d 334 0 [(31, a, x0), (8, p0, y0)] [] M := rfl
theorem e334_0 (ph : Bool) (d : Nat) (L st : List zV) (M : zM) : zEv ph d 334 0 L st M = zcont ph d 334 (zstep ph (zEm ph d) 4 1 0 [0] L st M) := zEv_step rfl
theorem e334_1 (ph : Bool) (d : Nat) (L st : List zV) (M : zM) : zEv ph d 334 1 L st M = zcont ph d 334 (zstep ph (zEm ph d) 4 2 0 [1] L st M) := zEv_step rfl
theorem e334_2 (ph : Bool) (d : Nat) (L st : List zV) (M : zM) : zEv ph d 334 2 L st M = zcont ph d 334 (zstep ph (zEm ph d) 70 5 307 [2, 1, 31] L st M) := zEv_step rfl
theorem e334_5 (ph : Bool) (d : Nat) (L st : List zV) (M : zM) : zEv ph d 334 5 L st M = zcont ph d 334 (zstep ph (zEm ph d) 38 6 0 [] L st M) := zEv_step rfl
theorem e334_6 (ph : Bool) (d : Nat) (L st : List zV) (M : zM) : zEv ph d 334 6 L st M = zcont ph d 334 (zstep ph (zEm ph d) 4 7 0 [0] L st M) := zEv_step rfl
theorem e334_7 (ph : Bool) (d : Nat) (L st : List zV) (M : zM) : zEv ph d 334 7 L st M = zcont ph d 334 (zstep ph (zEm ph d) 82 8 0 [] L st M) := zEv_step rfl
theorem m324 (ph : Bool) (d : Nat) (a x0 : Int) (M : zM) : zEm ph (d + 1) 324 [(8, a, x0)] M = zEv ph d 324 0 [(8, a, x0)] [] M := rfl
theorem e324_0 (ph : Bool) (d : Nat) (L st : List zV) (M : zM) : zEv ph d 324 0 L st M = zcont ph d 324 (zstep ph (zEm ph d) 4 1 0 [0] L st M) := zEv_step rfl
theorem e324_1 (ph : Bool) (d : Nat) (L st : List zV) (M : zM) : zEv ph d 324 1 L st M = zcont ph d 324 (zstep ph (zEm ph d) 98 4 0 [] L st M) := zEv_step rfl
theorem e324_4 (ph : Bool) (d : Nat) (L st : List zV) (M : zM) : zEv ph d 324 4 L st M = zcont ph d 324 (zstep ph (zEm ph d) 84 5 0 [] L st M) := zEv_step rfl
theorem e324_5 (ph : Bool) (d : Nat) (L st : List zV) (M : zM) : zEv ph d 324 5 L st M = zcont ph d 324 (zstep ph (zEm ph d) 4 6 0 [0] L st M) := zEv_step rfl
theorem e324_6 (ph : Bool) (d : Nat) (L st : List zV) (M : zM) : zEv ph d 324 6 L st M = zcont ph d 324 (zstep ph (zEm ph d) 70 9 328 [1, 1, 8] L st M) := zEv_step rfl
theorem e324_9 (ph : Bool) (d : Nat) (L st : List zV) (M : zM) : zEv ph d 324 9 L st M = zcont ph d 324 (zstep ph (zEm ph d) 20 10 0 [] L st M) := zEv_step rfl
theorem e324_10 (ph : Bool) (d : Nat) (L st : List zV) (M : zM) : zEv ph d 324 10 L st M = zcont ph d 324 (zstep ph (zEm ph d) 80 11 0 [] L st M) := zEv_step rfl
theorem m328 (ph : Bool) (d : Nat) (a x0 : Int) (M : zM) : zEm ph (d + 1) 328 [(8, a, x0)] M = zEv ph d 328 0 [(8, a, x0)] [] M := rfl
theorem e328_0 (ph : Bool) (d : Nat) (L st : List zV) (M : zM) : zEv ph d 328 0 L st M = zcont ph d 328 (zstep ph (zEm ph d) 0 3 0 [1] L st M) := zEv_step rfl
theorem e328_3 (ph : Bool) (d : Nat) (L st : List zV) (M : zM) : zEv ph d 328 3 L st M = zcont ph d 328 (zstep ph (zEm ph d) 40 6 13 [] L st M) := zEv_step rfl
theorem e328_6 (ph : Bool) (d : Nat) (L st : List zV) (M : zM) : zEv ph d 328 6 L st M = zcont ph d 328 (zstep ph (zEm ph d) 4 7 0 [0] L st M) := zEv_step rfl
theorem e328_7 (ph : Bool) (d : Nat) (L st : List zV) (M : zM) : zEv ph d 328 7 L st M = zcont ph d 328 (zstep ph (zEm ph d) 99 10 0 [] L st M) := zEv_step rfl
theorem e328_10 (ph : Bool) (d : Nat) (L st : List zV) (M : zM) : zEv ph d 328 10 L st M = zcont ph d 328 (zstep ph (zEm ph d) 52 13 14 [] L st M) := zEv_step rfl
theorem e328_13 (ph : Bool) (d : Nat) (L st : List zV) (M : zM) : zEv ph d 328 13 L st M = zcont ph d 328 (zstep ph (zEm ph d) 0 14 0 [1] L st M) := zEv_step rfl
theorem e328_14 (ph : Bool) (d : Nat) (L st : List zV) (M : zM) : zEv ph d 328 14 L st M = zcont ph d 328 (zstep ph (zEm ph d) 80 15 0 [-128, 127] L st M) := zEv_step rfl
theorem m313 (ph : Bool) (d : Nat) (a x0 p0 y0 p1 y1 : Int) (M : zM) : zEm ph (d + 1) 313 [(31, a, x0), (0, p0, y0), (8, p1, y1)] M = zEv ph d 313 0 [(31, a, x0), (0, p0, y0), (8, p1, y1)] [] M := rfl
theorem e313_0 (ph : Bool) (d : Nat) (L st : List zV) (M : zM) : zEv ph d 313 0 L st M = zcont ph d 313 (zstep ph (zEm ph d) 4 1 0 [0] L st M) := zEv_step rfl
theorem e313_1 (ph : Bool) (d : Nat) (L st : List zV) (M : zM) : zEv ph d 313 1 L st M = zcont ph d 313 (zstep ph (zEm ph d) 4 2 0 [2] L st M) := zEv_step rfl
theorem e313_2 (ph : Bool) (d : Nat) (L st : List zV) (M : zM) : zEv ph d 313 2 L st M = zcont ph d 313 (zstep ph (zEm ph d) 70 5 312 [2, 0, 31] L st M) := zEv_step rfl
theorem e313_5 (ph : Bool) (d : Nat) (L st : List zV) (M : zM) : zEv ph d 313 5 L st M = zcont ph d 313 (zstep ph (zEm ph d) 4 6 0 [2] L st M) := zEv_step rfl
theorem e313_6 (ph : Bool) (d : Nat) (L st : List zV) (M : zM) : zEv ph d 313 6 L st M = zcont ph d 313 (zstep ph (zEm ph d) 4 7 0 [0] L st M) := zEv_step rfl
theorem e313_7 (ph : Bool) (d : Nat) (L st : List zV) (M : zM) : zEv ph d 313 7 L st M = zcont ph d 313 (zstep ph (zEm ph d) 64 10 0 [31, 0, 13] L st M) := zEv_step rfl
theorem e313_10 (ph : Bool) (d : Nat) (L st : List zV) (M : zM) : zEv ph d 313 10 L st M = zcont ph d 313 (zstep ph (zEm ph d) 2 11 0 [1] L st M) := zEv_step rfl
theorem e313_11 (ph : Bool) (d : Nat) (L st : List zV) (M : zM) : zEv ph d 313 11 L st M = zcont ph d 313 (zstep ph (zEm ph d) 4 12 0 [0] L st M) := zEv_step rfl
theorem e313_12 (ph : Bool) (d : Nat) (L st : List zV) (M : zM) : zEv ph d 313 12 L st M = zcont ph d 313 (zstep ph (zEm ph d) 60 15 0 [31, 1] L st M) := zEv_step rfl
theorem e313_15 (ph : Bool) (d : Nat) (L st : List zV) (M : zM) : zEv ph d 313 15 L st M = zcont ph d 313 (zstep ph (zEm ph d) 70 18 327 [4, 0, 8] L st M) := zEv_step rfl
theorem e313_18 (ph : Bool) (d : Nat) (L st : List zV) (M : zM) : zEv ph d 313 18 L st M = zcont ph d 313 (zstep ph (zEm ph d) 83 19 0 [] L st M) := zEv_step rfl
theorem m312 (ph : Bool) (d : Nat) (a x0 p0 y0 : Int) (M : zM) : zEm ph (d + 1) 312 [(31, a, x0), (8, p0, y0)] M = zEv ph d 312 0 [(31, a, x0), (8, p0, y0)] [] M := rfl
theorem e312_0 (ph : Bool) (d : Nat) (L st : List zV) (M : zM) : zEv ph d 312 0 L st M = zcont ph d 312 (zstep ph (zEm ph d) 0 3 0 [1] L st M) := zEv_step rfl
theorem e312_3 (ph : Bool) (d : Nat) (L st : List zV) (M : zM) : zEv ph d 312 3 L st M = zcont ph d 312 (zstep ph (zEm ph d) 40 6 21 [] L st M) := zEv_step rfl
theorem e312_6 (ph : Bool) (d : Nat) (L st : List zV) (M : zM) : zEv ph d 312 6 L st M = zcont ph d 312 (zstep ph (zEm ph d) 4 7 0 [0] L st M) := zEv_step rfl
theorem e312_7 (ph : Bool) (d : Nat) (L st : List zV) (M : zM) : zEv ph d 312 7 L st M = zcont ph d 312 (zstep ph (zEm ph d) 60 10 0 [31, 1] L st M) := zEv_step rfl
theorem e312_10 (ph : Bool) (d : Nat) (L st : List zV) (M : zM) : zEv ph d 312 10 L st M = zcont ph d 312 (zstep ph (zEm ph d) 4 11 0 [1] L st M) := zEv_step rfl
theorem e312_11 (ph : Bool) (d : Nat) (L st : List zV) (M : zM) : zEv ph d 312 11 L st M = zcont ph d 312 (zstep ph (zEm ph d) 70 14 328 [1, 1, 8] L st M) := zEv_step rfl
theorem e312_14 (ph : Bool) (d : Nat) (L st : List zV) (M : zM) : zEv ph d 312 14 L st M = zcont ph d 312 (zstep ph (zEm ph d) 46 17 21 [] L st M) := zEv_step rfl
theorem e312_17 (ph : Bool) (d : Nat) (L st : List zV) (M : zM) : zEv ph d 312 17 L st M = zcont ph d 312 (zstep ph (zEm ph d) 4 18 0 [0] L st M) := zEv_step rfl
theorem e312_18 (ph : Bool) (d : Nat) (L st : List zV) (M : zM) : zEv ph d 312 18 L st M = zcont ph d 312 (zstep ph (zEm ph d) 70 21 304 [1, 0, 31] L st M) := zEv_step rfl
theorem e312_21 (ph : Bool) (d : Nat) (L st : List zV) (M : zM) : zEv ph d 312 21 L st M = zcont ph d 312 (zstep ph (zEm ph d) 83 22 0 [] L st M) := zEv_step rfl
theorem m327 (ph : Bool) (d : Nat) (a x0 p0 y0 p1 y1 p2 y2 : Int) (M : zM) : zEm ph (d + 1) 327 [(8, a, x0), (13, p0, y0), (0, p1, y1), (0, p2, y2)] M = zEv ph d 327 0 [(8, a, x0), (13, p0, y0), (0, p1, y1), (0, p2, y2)] [] M := rfl
theorem e327_0 (ph : Bool) (d : Nat) (L st : List zV) (M : zM) : zEv ph d 327 0 L st M = zcont ph d 327 (zstep ph (zEm ph d) 4 1 0 [0] L st M) := zEv_step rfl
theorem e327_1 (ph : Bool) (d : Nat) (L st : List zV) (M : zM) : zEv ph d 327 1 L st M = zcont ph d 327 (zstep ph (zEm ph d) 70 4 328 [1, 1, 8] L st M) := zEv_step rfl
theorem e327_4 (ph : Bool) (d : Nat) (L st : List zV) (M : zM) : zEv ph d 327 4 L st M = zcont ph d 327 (zstep ph (zEm ph d) 2 5 0 [3] L st M) := zEv_step rfl
theorem e327_5 (ph : Bool) (d : Nat) (L st : List zV) (M : zM) : zEv ph d 327 5 L st M = zcont ph d 327 (zstep ph (zEm ph d) 47 8 28 [] L st M) := zEv_step rfl
theorem e327_8 (ph : Bool) (d : Nat) (L st : List zV) (M : zM) : zEv ph d 327 8 L st M = zcont ph d 327 (zstep ph (zEm ph d) 4 9 0 [0] L st M) := zEv_step rfl
theorem e327_9 (ph : Bool) (d : Nat) (L st : List zV) (M : zM) : zEv ph d 327 9 L st M = zcont ph d 327 (zstep ph (zEm ph d) 98 12 0 [] L st M) := zEv_step rfl
theorem e327_12 (ph : Bool) (d : Nat) (L st : List zV) (M : zM) : zEv ph d 327 12 L st M = zcont ph d 327 (zstep ph (zEm ph d) 0 13 0 [0] L st M) := zEv_step rfl
theorem e327_13 (ph : Bool) (d : Nat) (L st : List zV) (M : zM) : zEv ph d 327 13 L st M = zcont ph d 327 (zstep ph (zEm ph d) 4 14 0 [1] L st M) := zEv_step rfl
theorem e327_14 (ph : Bool) (d : Nat) (L st : List zV) (M : zM) : zEv ph d 327 14 L st M = zcont ph d 327 (zstep ph (zEm ph d) 2 15 0 [2] L st M) := zEv_step rfl
theorem e327_15 (ph : Bool) (d : Nat) (L st : List zV) (M : zM) : zEv ph d 327 15 L st M = zcont ph d 327 (zstep ph (zEm ph d) 2 16 0 [3] L st M) := zEv_step rfl
theorem e327_16 (ph : Bool) (d : Nat) (L st : List zV) (M : zM) : zEv ph d 327 16 L st M = zcont ph d 327 (zstep ph (zEm ph d) 19 17 0 [] L st M) := zEv_step rfl
theorem e327_17 (ph : Bool) (d : Nat) (L st : List zV) (M : zM) : zEv ph d 327 17 L st M = zcont ph d 327 (zstep ph (zEm ph d) 4 18 0 [0] L st M) := zEv_step rfl
theorem e327_18 (ph : Bool) (d : Nat) (L st : List zV) (M : zM) : zEv ph d 327 18 L st M = zcont ph d 327 (zstep ph (zEm ph d) 98 21 0 [] L st M) := zEv_step rfl
theorem e327_21 (ph : Bool) (d : Nat) (L st : List zV) (M : zM) : zEv ph d 327 21 L st M = zcont ph d 327 (zstep ph (zEm ph d) 84 22 0 [] L st M) := zEv_step rfl
theorem e327_22 (ph : Bool) (d : Nat) (L st : List zV) (M : zM) : zEv ph d 327 22 L st M = zcont ph d 327 (zstep ph (zEm ph d) 74 25 0 [] L st M) := zEv_step rfl
theorem e327_25 (ph : Bool) (d : Nat) (L st : List zV) (M : zM) : zEv ph d 327 25 L st M = zcont ph d 327 (zstep ph (zEm ph d) 52 28 43 [] L st M) := zEv_step rfl
theorem e327_28 (ph : Bool) (d : Nat) (L st : List zV) (M : zM) : zEv ph d 327 28 L st M = zcont ph d 327 (zstep ph (zEm ph d) 4 29 0 [0] L st M) := zEv_step rfl
theorem e327_29 (ph : Bool) (d : Nat) (L st : List zV) (M : zM) : zEv ph d 327 29 L st M = zcont ph d 327 (zstep ph (zEm ph d) 98 32 0 [] L st M) := zEv_step rfl
theorem e327_32 (ph : Bool) (d : Nat) (L st : List zV) (M : zM) : zEv ph d 327 32 L st M = zcont ph d 327 (zstep ph (zEm ph d) 0 33 0 [0] L st M) := zEv_step rfl
theorem e327_33 (ph : Bool) (d : Nat) (L st : List zV) (M : zM) : zEv ph d 327 33 L st M = zcont ph d 327 (zstep ph (zEm ph d) 4 34 0 [1] L st M) := zEv_step rfl
theorem e327_34 (ph : Bool) (d : Nat) (L st : List zV) (M : zM) : zEv ph d 327 34 L st M = zcont ph d 327 (zstep ph (zEm ph d) 2 35 0 [2] L st M) := zEv_step rfl
theorem e327_35 (ph : Bool) (d : Nat) (L st : List zV) (M : zM) : zEv ph d 327 35 L st M = zcont ph d 327 (zstep ph (zEm ph d) 4 36 0 [0] L st M) := zEv_step rfl
theorem e327_36 (ph : Bool) (d : Nat) (L st : List zV) (M : zM) : zEv ph d 327 36 L st M = zcont ph d 327 (zstep ph (zEm ph d) 98 39 0 [] L st M) := zEv_step rfl
theorem e327_39 (ph : Bool) (d : Nat) (L st : List zV) (M : zM) : zEv ph d 327 39 L st M = zcont ph d 327 (zstep ph (zEm ph d) 84 40 0 [] L st M) := zEv_step rfl
theorem e327_40 (ph : Bool) (d : Nat) (L st : List zV) (M : zM) : zEv ph d 327 40 L st M = zcont ph d 327 (zstep ph (zEm ph d) 70 43 345 [5, 0, -1] L st M) := zEv_step rfl
theorem e327_43 (ph : Bool) (d : Nat) (L st : List zV) (M : zM) : zEv ph d 327 43 L st M = zcont ph d 327 (zstep ph (zEm ph d) 83 44 0 [] L st M) := zEv_step rfl
theorem s_isLatin1 (d : Nat) (y : Int) (M : zM) (h : M 54 1 = 0) : zEm true (d + 1) 311 [(31, 54, y)] M = some ((0, 1, 0), M) := by
  simp (disch := first | assumption | exact zrm0 | exact zrm1 _ | exact zrm2 _ _ | exact zrm3 _ _ _ | exact zrm4 _ _ _ _ | omega) only [m311, ↓k_dp, ↓k_dn, k_dp, k_dn, k_dT, k_dF, k_ip, k_in, if_true, if_false, ne_eq, not_true_eq_false, not_false_eq_true, Int.reduceAdd, zup_a, zup_e, zup_j, z32_id, k_ic, k_ifeq, k_al0, k_gI, k_ifne, k_goto, k_rz, e311_0, e311_3, e311_6, e311_7, e311_10, e311_13, e311_14, e311_17, e311_18, h]
theorem s_canEncode (d : Nat) (c y : Int) (M : zM) (h : c < 128) : zEm true (d + 1) 340 [(0, c, y)] M = some ((0, 1, 0), M) := by
  simp (disch := first | assumption | exact zrm0 | exact zrm1 _ | exact zrm2 _ _ | exact zrm3 _ _ _ | exact zrm4 _ _ _ _ | omega) only [m340, ↓k_dp, ↓k_dn, k_dp, k_dn, k_dT, k_dF, k_ip, k_in, if_true, if_false, ne_eq, not_true_eq_false, not_false_eq_true, Int.reduceAdd, zup_a, zup_e, zup_j, z32_id, k_il0, k_ic, k_icgt, k_goto, k_rz, e340_0, e340_1, e340_4, e340_7, e340_8, e340_11, e340_12]
theorem s_app2 (d : Nat) (y c y1 : Int) (M : zM) (hY : okY M) (c0 : 0 ≤ c) (c1 : c < 128) (hn : M 54 3 < 34) : ∃ M', zEm true (d + 5) 335 [(31, 54, y), (0, c, y1)] M = some ((31, 54, y), M') ∧ cT M M' 1 (fun _ => c) := by
  have b5 := hY.2.2.2.2.1
  have he := s_ensure d (M 54 3 + 1) y 0 M hY (by omega) (by omega)
  obtain ⟨k1, k2, k3, k4, k5, k6⟩ := cEns_ok (m := M 54 3 + 1) hY (by omega)
  have hz := zs8_small c0 c1
  obtain ⟨a1, a2, a3, a4, a5, a6⟩ := k1
  obtain ⟨P, hP⟩ : ∃ P, P = zup (zup (cEns M (M 54 3 + 1)) 54 3 (M 54 3 + 1)) (cEns M (M 54 3 + 1) 54 0) (M 54 3) c := ⟨_, rfl⟩
  refine ⟨P, ?_, cT_wr hY rfl (by omega) (by omega) ?_ (fun i i0 i1 => ?_) (fun x y h1 h2 => ?_)⟩
  · rw [hP]
    generalize cEns M (M 54 3 + 1) = N at *
    have h : zEm true (d + 4) 309 [(31, 54, y), (0, c, 0)] M = some ((31, 54, y), zup (zup N 54 3 (M 54 3 + 1)) (N 54 0) (M 54 3) c) := by
      simp (disch := first | assumption | exact zrm0 | exact zrm1 _ | exact zrm2 _ _ | exact zrm3 _ _ _ | exact zrm4 _ _ _ _ | omega) only [m309, ↓k_dp, ↓k_dn, k_dp, k_dn, k_dT, k_dF, k_ip, k_in, if_true, if_false, ne_eq, not_true_eq_false, not_false_eq_true, Int.reduceAdd, zup_a, zup_e, zup_j, z32_id, k_al0, k_gI, k_ic, k_iadd, k_v2, k_v1r, k_ifeq, k_il1, k_s1r, k_gD, k_dup, k_dupx, k_pI, k_i2b, k_bstZ, k_bstB, k_goto, k_v1, k_s3, k_ra, zb0_some, zb1_some, e309_0, e309_1, e309_2, e309_5, e309_6, e309_7, e309_10, e309_11, e309_14, e309_17, e309_18, e309_21, e309_24, e309_25, e309_28, e309_29, e309_30, e309_33, e309_34, e309_35, e309_36, e309_39, e309_40, e309_41, e309_42, e309_45, e309_46, e309_49, e309_52, e309_53, e309_56, e309_57, e309_60, e309_61, e309_62, e309_65, e309_66, e309_67, e309_68, e309_71, e309_72, e309_75, e309_76, he, s_isLatin1, s_canEncode, a4, k3, hz]
    simp (disch := first | assumption | exact zrm0 | exact zrm1 _ | exact zrm2 _ _ | exact zrm3 _ _ _ | exact zrm4 _ _ _ _ | omega) only [m335, ↓k_dp, ↓k_dn, k_dp, k_dn, k_dT, k_dF, k_ip, k_in, if_true, if_false, ne_eq, not_true_eq_false, not_false_eq_true, Int.reduceAdd, zup_a, zup_e, zup_j, z32_id, k_al0, k_il1, k_v2r, k_pop, k_ra, zb0_some, zb1_some, e335_0, e335_1, e335_2, e335_5, e335_6, e335_7, h]
  · rw [hP, zup_a (by omega), zup_e (by omega)]
  · have e : i = 0 := by omega
    subst e
    rw [hP, Int.add_zero, zup_e (by omega)]
  · rw [hP]
    unfold zup
    rw [if_neg (by omega), if_neg (by omega)]
theorem s_strlen (d : Nat) (k n : Int) (M : zM) (n0 : 0 ≤ n) (n1 : n ≤ 12) : zEm true (d + 2) 324 [(8, k, n)] M = some ((0, n, 0), M) := by
  have hz := zshr_small (x := n) n0 (by omega)
  have hc : zEm true (d + 1) 328 [(8, k, n)] M = some ((0, 0, 0), M) := by
    simp (disch := first | assumption | exact zrm0 | exact zrm1 _ | exact zrm2 _ _ | exact zrm3 _ _ _ | exact zrm4 _ _ _ _ | omega) only [m328, ↓k_dp, ↓k_dn, k_dp, k_dn, k_dT, k_dF, k_ip, k_in, if_true, if_false, ne_eq, not_true_eq_false, not_false_eq_true, Int.reduceAdd, zup_a, zup_e, zup_j, z32_id, k_ic, k_ifeq, k_al0, k_sc, k_goto, k_rz, e328_0, e328_3, e328_6, e328_7, e328_10, e328_13, e328_14]
  simp (disch := first | assumption | exact zrm0 | exact zrm1 _ | exact zrm2 _ _ | exact zrm3 _ _ _ | exact zrm4 _ _ _ _ | omega) only [m324, ↓k_dp, ↓k_dn, k_dp, k_dn, k_dT, k_dF, k_ip, k_in, if_true, if_false, ne_eq, not_true_eq_false, not_false_eq_true, Int.reduceAdd, zup_a, zup_e, zup_j, z32_id, k_al0, k_sv, k_len, k_v1r, k_ishr, k_ri, zb0_some, zb1_some, e324_0, e324_1, e324_4, e324_5, e324_6, e324_9, e324_10, hc, hz]
theorem s_putString (d : Nat) (y n y1 k l : Int) (M : zM) (hn : M 54 1 = 0) (h0 : 0 < M 54 0) (n0 : 0 ≤ n) (l0 : 0 ≤ l) (l1 : l ≤ 12) (h1 : n + l ≤ M 54 1000) (h2 : M 54 1000 ≤ 64) : zEm true (d + 3) 313 [(31, 54, y), (0, n, y1), (8, k, l)] M = some ((98, 0, 0), zcpyS M k 0 (M 54 0) n l) := by
  have hc : ∀ d, zEm true (d + 1) 328 [(8, k, l)] M = some ((0, 0, 0), M) := fun d => by
    simp (disch := first | assumption | exact zrm0 | exact zrm1 _ | exact zrm2 _ _ | exact zrm3 _ _ _ | exact zrm4 _ _ _ _ | omega) only [m328, ↓k_dp, ↓k_dn, k_dp, k_dn, k_dT, k_dF, k_ip, k_in, if_true, if_false, ne_eq, not_true_eq_false, not_false_eq_true, Int.reduceAdd, zup_a, zup_e, zup_j, z32_id, k_ic, k_ifeq, k_al0, k_sc, k_goto, k_rz, e328_0, e328_3, e328_6, e328_7, e328_10, e328_13, e328_14]
  have hi : zEm true (d + 2) 312 [(31, 54, y), (8, k, l)] M = some ((98, 0, 0), M) := by
    simp (disch := first | assumption | exact zrm0 | exact zrm1 _ | exact zrm2 _ _ | exact zrm3 _ _ _ | exact zrm4 _ _ _ _ | omega) only [m312, ↓k_dp, ↓k_dn, k_dp, k_dn, k_dT, k_dF, k_ip, k_in, if_true, if_false, ne_eq, not_true_eq_false, not_false_eq_true, Int.reduceAdd, zup_a, zup_e, zup_j, z32_id, k_ic, k_ifeq, k_al0, k_gI, k_al1, k_v1r, k_iceq, k_v1, k_rv, zb0_some, zb1_some, e312_0, e312_3, e312_6, e312_7, e312_10, e312_11, e312_14, e312_17, e312_18, e312_21, hc, hn]
  have hs : zshl n 0 = n := zshl_small n0 (by omega)
  have hg : zEm true (d + 2) 327 [(8, k, l), (13, M 54 0, M 54 1000), (0, n, 0), (0, 0, 0)] M = some ((98, 0, 0), zcpyS M k 0 (M 54 0) n l) := by
    simp (disch := first | assumption | exact zrm0 | exact zrm1 _ | exact zrm2 _ _ | exact zrm3 _ _ _ | exact zrm4 _ _ _ _ | omega) only [m327, ↓k_dp, ↓k_dn, k_dp, k_dn, k_dT, k_dF, k_ip, k_in, if_true, if_false, ne_eq, not_true_eq_false, not_false_eq_true, Int.reduceAdd, zup_a, zup_e, zup_j, z32_id, k_al0, k_v1r, k_il3, k_icne, k_sv, k_ic, k_al1, k_il2, k_ishl, k_len, k_cpy, k_cpyS, k_goto, k_s5, k_rv, zb0_some, zb1_some, e327_0, e327_1, e327_4, e327_5, e327_8, e327_9, e327_12, e327_13, e327_14, e327_15, e327_16, e327_17, e327_18, e327_21, e327_22, e327_25, e327_28, e327_29, e327_32, e327_33, e327_34, e327_35, e327_36, e327_39, e327_40, e327_43, hc, hs]
  simp (disch := first | assumption | exact zrm0 | exact zrm1 _ | exact zrm2 _ _ | exact zrm3 _ _ _ | exact zrm4 _ _ _ _ | omega) only [m313, ↓k_dp, ↓k_dn, k_dp, k_dn, k_dT, k_dF, k_ip, k_in, if_true, if_false, ne_eq, not_true_eq_false, not_false_eq_true, Int.reduceAdd, zup_a, zup_e, zup_j, z32_id, k_al0, k_al2, k_v2, k_gD, k_il1, k_gI, k_v4, k_rv, zb0_some, zb1_some, e313_0, e313_1, e313_2, e313_5, e313_6, e313_7, e313_10, e313_11, e313_12, e313_15, e313_18, hi, hg, hn]
theorem s_app1 (d : Nat) (y k l : Int) (M : zM) (hY : okY M) (l0 : 0 ≤ l) (l1 : l ≤ 12) (hn : M 54 3 + l ≤ 34) : ∃ M', zEm true (d + 5) 334 [(31, 54, y), (8, k, l)] M = some ((31, 54, y), M') ∧ cT M M' l (fun i => zsta 9 k i) := by
  have b5 := hY.2.2.2.2.1
  have he := s_ensure d (M 54 3 + l) y 0 M hY (by omega) (by omega)
  obtain ⟨k1, k2, k3, k4, k5, k6⟩ := cEns_ok (m := M 54 3 + l) hY (by omega)
  obtain ⟨a1, a2, a3, a4, a5, a6⟩ := k1
  obtain ⟨P, hP⟩ : ∃ P, P = zup (zcpyS (cEns M (M 54 3 + l)) k 0 (cEns M (M 54 3 + l) 54 0) (M 54 3) l) 54 3 (M 54 3 + l) := ⟨_, rfl⟩
  refine ⟨P, ?_, cT_wr hY rfl (by omega) (by omega) ?_ (fun i i0 i1 => ?_) (fun x y h1 h2 => ?_)⟩
  · rw [hP]
    generalize cEns M (M 54 3 + l) = N at *
    have hp := s_putString d y (M 54 3) 0 k l N a4 (by omega) (by omega) l0 l1 (by omega) (by omega)
    have e3 : zcpyS N k 0 (N 54 0) (M 54 3) l 54 3 = M 54 3 := by
      unfold zcpyS
      rw [if_neg (by omega)]
      exact k3
    have h : zEm true (d + 4) 307 [(31, 54, y), (8, k, l)] M = some ((31, 54, y), zup (zcpyS N k 0 (N 54 0) (M 54 3) l) 54 3 (M 54 3 + l)) := by
      simp (disch := first | assumption | exact zrm0 | exact zrm1 _ | exact zrm2 _ _ | exact zrm3 _ _ _ | exact zrm4 _ _ _ _ | omega) only [m307, ↓k_dp, ↓k_dn, k_dp, k_dn, k_dT, k_dF, k_ip, k_in, if_true, if_false, ne_eq, not_true_eq_false, not_false_eq_true, Int.reduceAdd, zup_a, zup_e, zup_j, z32_id, k_al1, k_ifnn, k_al0, k_v1r, k_ra, k_is2, k_gI, k_il2, k_iadd, k_v2, k_v3, k_dup, k_pI, zb0_some, zb1_some, e307_0, e307_1, e307_4, e307_5, e307_8, e307_9, e307_10, e307_13, e307_14, e307_15, e307_16, e307_19, e307_20, e307_21, e307_24, e307_25, e307_26, e307_29, e307_30, e307_33, e307_34, e307_35, e307_38, e307_39, e307_40, e307_43, e307_44, he, s_strlen, hp, k3, e3]
    simp (disch := first | assumption | exact zrm0 | exact zrm1 _ | exact zrm2 _ _ | exact zrm3 _ _ _ | exact zrm4 _ _ _ _ | omega) only [m334, ↓k_dp, ↓k_dn, k_dp, k_dn, k_dT, k_dF, k_ip, k_in, if_true, if_false, ne_eq, not_true_eq_false, not_false_eq_true, Int.reduceAdd, zup_a, zup_e, zup_j, z32_id, k_al0, k_al1, k_v2r, k_pop, k_ra, zb0_some, zb1_some, e334_0, e334_1, e334_2, e334_5, e334_6, e334_7, h]
  · rw [hP, zup_e (by omega)]
  · rw [hP, zup_a (by omega)]
    unfold zcpyS
    rw [if_pos (by omega)]
    congr 1
    omega
  · rw [hP]
    unfold zup zcpyS
    rw [if_neg (by omega), if_neg (by omega)]
