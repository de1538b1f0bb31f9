/-! tokens: letters, digits, runs of them -/
def isL (c : Int) : Prop := 97 ≤ c ∧ c ≤ 122
def isD (c : Int) : Prop := 48 ≤ c ∧ c ≤ 57
theorem upTo (P : Int → Prop) : ∀ (n : Nat) (p : Int), ∃ e, p ≤ e ∧ e ≤ p + n ∧ (∀ i, p ≤ i → i < e → P i) ∧ (e = p + n ∨ ¬ P e)
  | 0, p => ⟨p, by omega, by omega, fun i h1 h2 => by omega, Or.inl (by omega)⟩
  | n + 1, p => by
    by_cases c : P p
    · obtain ⟨e, h1, h2, h3, h4⟩ := upTo P n (p + 1)
      refine ⟨e, by omega, by omega, fun i p1 p2 => ?_, ?_⟩
      · by_cases ci : i = p
        · rw [ci]; exact c
        · exact h3 i (by omega) p2
      · rcases h4 with h4 | h4
        · exact Or.inl (by omega)
        · exact Or.inr h4
    · exact ⟨p, by omega, by omega, fun i h1 h2 => by omega, Or.inr c⟩
theorem m143 (ph : Bool) (d : Nat) (p0 y0 : Int) (M : zM) : zEm ph (d + 1) 143 [(0, p0, y0)] M = zEv ph d 143 0 [(0, p0, y0)] [] M := rfl
theorem e143_0 (ph : Bool) (d : Nat) (L st : List zV) (M : zM) : zEv ph d 143 0 L st M = zcont ph d 143 (zstep ph (zEm ph d) 2 1 0 [0] L st M) := zEv_step rfl
theorem e143_1 (ph : Bool) (d : Nat) (L st : List zV) (M : zM) : zEv ph d 143 1 L st M = zcont ph d 143 (zstep ph (zEm ph d) 0 3 0 [97] L st M) := zEv_step rfl
theorem e143_3 (ph : Bool) (d : Nat) (L st : List zV) (M : zM) : zEv ph d 143 3 L st M = zcont ph d 143 (zstep ph (zEm ph d) 48 6 16 [] L st M) := zEv_step rfl
theorem e143_6 (ph : Bool) (d : Nat) (L st : List zV) (M : zM) : zEv ph d 143 6 L st M = zcont ph d 143 (zstep ph (zEm ph d) 2 7 0 [0] L st M) := zEv_step rfl
theorem e143_7 (ph : Bool) (d : Nat) (L st : List zV) (M : zM) : zEv ph d 143 7 L st M = zcont ph d 143 (zstep ph (zEm ph d) 0 9 0 [122] L st M) := zEv_step rfl
theorem e143_9 (ph : Bool) (d : Nat) (L st : List zV) (M : zM) : zEv ph d 143 9 L st M = zcont ph d 143 (zstep ph (zEm ph d) 50 12 16 [] L st M) := zEv_step rfl
theorem e143_12 (ph : Bool) (d : Nat) (L st : List zV) (M : zM) : zEv ph d 143 12 L st M = zcont ph d 143 (zstep ph (zEm ph d) 0 13 0 [1] L st M) := zEv_step rfl
theorem e143_13 (ph : Bool) (d : Nat) (L st : List zV) (M : zM) : zEv ph d 143 13 L st M = zcont ph d 143 (zstep ph (zEm ph d) 52 16 17 [] L st M) := zEv_step rfl
theorem e143_16 (ph : Bool) (d : Nat) (L st : List zV) (M : zM) : zEv ph d 143 16 L st M = zcont ph d 143 (zstep ph (zEm ph d) 0 17 0 [0] L st M) := zEv_step rfl
theorem e143_17 (ph : Bool) (d : Nat) (L st : List zV) (M : zM) : zEv ph d 143 17 L st M = zcont ph d 143 (zstep ph (zEm ph d) 80 18 0 [0, 1] L st M) := zEv_step rfl
theorem m144 (ph : Bool) (d : Nat) (p0 y0 : Int) (M : zM) : zEm ph (d + 1) 144 [(0, p0, y0)] M = zEv ph d 144 0 [(0, p0, y0)] [] M := rfl
theorem e144_0 (ph : Bool) (d : Nat) (L st : List zV) (M : zM) : zEv ph d 144 0 L st M = zcont ph d 144 (zstep ph (zEm ph d) 2 1 0 [0] L st M) := zEv_step rfl
theorem e144_1 (ph : Bool) (d : Nat) (L st : List zV) (M : zM) : zEv ph d 144 1 L st M = zcont ph d 144 (zstep ph (zEm ph d) 0 3 0 [48] L st M) := zEv_step rfl
theorem e144_3 (ph : Bool) (d : Nat) (L st : List zV) (M : zM) : zEv ph d 144 3 L st M = zcont ph d 144 (zstep ph (zEm ph d) 48 6 16 [] L st M) := zEv_step rfl
theorem e144_6 (ph : Bool) (d : Nat) (L st : List zV) (M : zM) : zEv ph d 144 6 L st M = zcont ph d 144 (zstep ph (zEm ph d) 2 7 0 [0] L st M) := zEv_step rfl
theorem e144_7 (ph : Bool) (d : Nat) (L st : List zV) (M : zM) : zEv ph d 144 7 L st M = zcont ph d 144 (zstep ph (zEm ph d) 0 9 0 [57] L st M) := zEv_step rfl
theorem e144_9 (ph : Bool) (d : Nat) (L st : List zV) (M : zM) : zEv ph d 144 9 L st M = zcont ph d 144 (zstep ph (zEm ph d) 50 12 16 [] L st M) := zEv_step rfl
theorem e144_12 (ph : Bool) (d : Nat) (L st : List zV) (M : zM) : zEv ph d 144 12 L st M = zcont ph d 144 (zstep ph (zEm ph d) 0 13 0 [1] L st M) := zEv_step rfl
theorem e144_13 (ph : Bool) (d : Nat) (L st : List zV) (M : zM) : zEv ph d 144 13 L st M = zcont ph d 144 (zstep ph (zEm ph d) 52 16 17 [] L st M) := zEv_step rfl
theorem e144_16 (ph : Bool) (d : Nat) (L st : List zV) (M : zM) : zEv ph d 144 16 L st M = zcont ph d 144 (zstep ph (zEm ph d) 0 17 0 [0] L st M) := zEv_step rfl
theorem e144_17 (ph : Bool) (d : Nat) (L st : List zV) (M : zM) : zEv ph d 144 17 L st M = zcont ph d 144 (zstep ph (zEm ph d) 80 18 0 [0, 1] L st M) := zEv_step rfl
theorem m175 (ph : Bool) (d : Nat) (p0 y0 : Int) (M : zM) : zEm ph (d + 1) 175 [(0, p0, y0)] M = zEv ph d 175 0 [(0, p0, y0)] [] M := rfl
theorem e175_0 (ph : Bool) (d : Nat) (L st : List zV) (M : zM) : zEv ph d 175 0 L st M = zcont ph d 175 (zstep ph (zEm ph d) 2 1 0 [0] L st M) := zEv_step rfl
theorem e175_1 (ph : Bool) (d : Nat) (L st : List zV) (M : zM) : zEv ph d 175 1 L st M = zcont ph d 175 (zstep ph (zEm ph d) 0 3 0 [97] L st M) := zEv_step rfl
theorem e175_3 (ph : Bool) (d : Nat) (L st : List zV) (M : zM) : zEv ph d 175 3 L st M = zcont ph d 175 (zstep ph (zEm ph d) 48 6 16 [] L st M) := zEv_step rfl
theorem e175_6 (ph : Bool) (d : Nat) (L st : List zV) (M : zM) : zEv ph d 175 6 L st M = zcont ph d 175 (zstep ph (zEm ph d) 2 7 0 [0] L st M) := zEv_step rfl
theorem e175_7 (ph : Bool) (d : Nat) (L st : List zV) (M : zM) : zEv ph d 175 7 L st M = zcont ph d 175 (zstep ph (zEm ph d) 0 9 0 [122] L st M) := zEv_step rfl
theorem e175_9 (ph : Bool) (d : Nat) (L st : List zV) (M : zM) : zEv ph d 175 9 L st M = zcont ph d 175 (zstep ph (zEm ph d) 50 12 16 [] L st M) := zEv_step rfl
theorem e175_12 (ph : Bool) (d : Nat) (L st : List zV) (M : zM) : zEv ph d 175 12 L st M = zcont ph d 175 (zstep ph (zEm ph d) 0 13 0 [1] L st M) := zEv_step rfl
theorem e175_13 (ph : Bool) (d : Nat) (L st : List zV) (M : zM) : zEv ph d 175 13 L st M = zcont ph d 175 (zstep ph (zEm ph d) 52 16 17 [] L st M) := zEv_step rfl
theorem e175_16 (ph : Bool) (d : Nat) (L st : List zV) (M : zM) : zEv ph d 175 16 L st M = zcont ph d 175 (zstep ph (zEm ph d) 0 17 0 [0] L st M) := zEv_step rfl
theorem e175_17 (ph : Bool) (d : Nat) (L st : List zV) (M : zM) : zEv ph d 175 17 L st M = zcont ph d 175 (zstep ph (zEm ph d) 80 18 0 [0, 1] L st M) := zEv_step rfl
theorem m174 (ph : Bool) (d : Nat) (p0 y0 : Int) (M : zM) : zEm ph (d + 1) 174 [(0, p0, y0)] M = zEv ph d 174 0 [(0, p0, y0)] [] M := rfl
theorem e174_0 (ph : Bool) (d : Nat) (L st : List zV) (M : zM) : zEv ph d 174 0 L st M = zcont ph d 174 (zstep ph (zEm ph d) 2 1 0 [0] L st M) := zEv_step rfl
theorem e174_1 (ph : Bool) (d : Nat) (L st : List zV) (M : zM) : zEv ph d 174 1 L st M = zcont ph d 174 (zstep ph (zEm ph d) 0 3 0 [48] L st M) := zEv_step rfl
theorem e174_3 (ph : Bool) (d : Nat) (L st : List zV) (M : zM) : zEv ph d 174 3 L st M = zcont ph d 174 (zstep ph (zEm ph d) 48 6 16 [] L st M) := zEv_step rfl
theorem e174_6 (ph : Bool) (d : Nat) (L st : List zV) (M : zM) : zEv ph d 174 6 L st M = zcont ph d 174 (zstep ph (zEm ph d) 2 7 0 [0] L st M) := zEv_step rfl
theorem e174_7 (ph : Bool) (d : Nat) (L st : List zV) (M : zM) : zEv ph d 174 7 L st M = zcont ph d 174 (zstep ph (zEm ph d) 0 9 0 [57] L st M) := zEv_step rfl
theorem e174_9 (ph : Bool) (d : Nat) (L st : List zV) (M : zM) : zEv ph d 174 9 L st M = zcont ph d 174 (zstep ph (zEm ph d) 50 12 16 [] L st M) := zEv_step rfl
theorem e174_12 (ph : Bool) (d : Nat) (L st : List zV) (M : zM) : zEv ph d 174 12 L st M = zcont ph d 174 (zstep ph (zEm ph d) 0 13 0 [1] L st M) := zEv_step rfl
theorem e174_13 (ph : Bool) (d : Nat) (L st : List zV) (M : zM) : zEv ph d 174 13 L st M = zcont ph d 174 (zstep ph (zEm ph d) 52 16 17 [] L st M) := zEv_step rfl
theorem e174_16 (ph : Bool) (d : Nat) (L st : List zV) (M : zM) : zEv ph d 174 16 L st M = zcont ph d 174 (zstep ph (zEm ph d) 0 17 0 [0] L st M) := zEv_step rfl
theorem e174_17 (ph : Bool) (d : Nat) (L st : List zV) (M : zM) : zEv ph d 174 17 L st M = zcont ph d 174 (zstep ph (zEm ph d) 80 18 0 [0, 1] L st M) := zEv_step rfl
theorem m173 (ph : Bool) (d : Nat) (a x0 p0 y0 : Int) (M : zM) : zEm ph (d + 1) 173 [(30, a, x0), (0, p0, y0)] M = zEv ph d 173 0 [(30, a, x0), (0, p0, y0)] [] M := rfl
theorem e173_0 (ph : Bool) (d : Nat) (L st : List zV) (M : zM) : zEv ph d 173 0 L st M = zcont ph d 173 (zstep ph (zEm ph d) 2 1 0 [1] L st M) := zEv_step rfl
theorem e173_1 (ph : Bool) (d : Nat) (L st : List zV) (M : zM) : zEv ph d 173 1 L st M = zcont ph d 173 (zstep ph (zEm ph d) 4 2 0 [0] L st M) := zEv_step rfl
theorem e173_2 (ph : Bool) (d : Nat) (L st : List zV) (M : zM) : zEv ph d 173 2 L st M = zcont ph d 173 (zstep ph (zEm ph d) 60 5 0 [30, 3] L st M) := zEv_step rfl
theorem e173_5 (ph : Bool) (d : Nat) (L st : List zV) (M : zM) : zEv ph d 173 5 L st M = zcont ph d 173 (zstep ph (zEm ph d) 49 8 17 [] L st M) := zEv_step rfl
theorem e173_8 (ph : Bool) (d : Nat) (L st : List zV) (M : zM) : zEv ph d 173 8 L st M = zcont ph d 173 (zstep ph (zEm ph d) 4 9 0 [0] L st M) := zEv_step rfl
theorem e173_9 (ph : Bool) (d : Nat) (L st : List zV) (M : zM) : zEv ph d 173 9 L st M = zcont ph d 173 (zstep ph (zEm ph d) 62 12 0 [30, 1, 1, 10, 940] L st M) := zEv_step rfl
theorem e173_12 (ph : Bool) (d : Nat) (L st : List zV) (M : zM) : zEv ph d 173 12 L st M = zcont ph d 173 (zstep ph (zEm ph d) 2 13 0 [1] L st M) := zEv_step rfl
theorem e173_13 (ph : Bool) (d : Nat) (L st : List zV) (M : zM) : zEv ph d 173 13 L st M = zcont ph d 173 (zstep ph (zEm ph d) 85 14 0 [] L st M) := zEv_step rfl
theorem e173_14 (ph : Bool) (d : Nat) (L st : List zV) (M : zM) : zEv ph d 173 14 L st M = zcont ph d 173 (zstep ph (zEm ph d) 52 17 18 [] L st M) := zEv_step rfl
theorem e173_17 (ph : Bool) (d : Nat) (L st : List zV) (M : zM) : zEv ph d 173 17 L st M = zcont ph d 173 (zstep ph (zEm ph d) 0 18 0 [0] L st M) := zEv_step rfl
theorem e173_18 (ph : Bool) (d : Nat) (L st : List zV) (M : zM) : zEv ph d 173 18 L st M = zcont ph d 173 (zstep ph (zEm ph d) 80 19 0 [] L st M) := zEv_step rfl
theorem m160 (ph : Bool) (d : Nat) (p0 y0 p1 y1 : Int) (M : zM) : zEm ph (d + 1) 160 [(1, p0, y0), (0, p1, y1)] M = zEv ph d 160 0 [(1, p0, y0), (3, 0, 0), (0, p1, y1)] [] M := rfl
theorem e160_0 (ph : Bool) (d : Nat) (L st : List zV) (M : zM) : zEv ph d 160 0 L st M = zcont ph d 160 (zstep ph (zEm ph d) 3 1 0 [0] L st M) := zEv_step rfl
theorem e160_1 (ph : Bool) (d : Nat) (L st : List zV) (M : zM) : zEv ph d 160 1 L st M = zcont ph d 160 (zstep ph (zEm ph d) 0 2 0 [5] L st M) := zEv_step rfl
theorem e160_2 (ph : Bool) (d : Nat) (L st : List zV) (M : zM) : zEv ph d 160 2 L st M = zcont ph d 160 (zstep ph (zEm ph d) 34 3 0 [] L st M) := zEv_step rfl
theorem e160_3 (ph : Bool) (d : Nat) (L st : List zV) (M : zM) : zEv ph d 160 3 L st M = zcont ph d 160 (zstep ph (zEm ph d) 2 4 0 [2] L st M) := zEv_step rfl
theorem e160_4 (ph : Bool) (d : Nat) (L st : List zV) (M : zM) : zEv ph d 160 4 L st M = zcont ph d 160 (zstep ph (zEm ph d) 0 6 0 [97] L st M) := zEv_step rfl
theorem e160_6 (ph : Bool) (d : Nat) (L st : List zV) (M : zM) : zEv ph d 160 6 L st M = zcont ph d 160 (zstep ph (zEm ph d) 11 7 0 [] L st M) := zEv_step rfl
theorem e160_7 (ph : Bool) (d : Nat) (L st : List zV) (M : zM) : zEv ph d 160 7 L st M = zcont ph d 160 (zstep ph (zEm ph d) 0 8 0 [1] L st M) := zEv_step rfl
theorem e160_8 (ph : Bool) (d : Nat) (L st : List zV) (M : zM) : zEv ph d 160 8 L st M = zcont ph d 160 (zstep ph (zEm ph d) 10 9 0 [] L st M) := zEv_step rfl
theorem e160_9 (ph : Bool) (d : Nat) (L st : List zV) (M : zM) : zEv ph d 160 9 L st M = zcont ph d 160 (zstep ph (zEm ph d) 28 10 0 [] L st M) := zEv_step rfl
theorem e160_10 (ph : Bool) (d : Nat) (L st : List zV) (M : zM) : zEv ph d 160 10 L st M = zcont ph d 160 (zstep ph (zEm ph d) 33 11 0 [] L st M) := zEv_step rfl
theorem e160_11 (ph : Bool) (d : Nat) (L st : List zV) (M : zM) : zEv ph d 160 11 L st M = zcont ph d 160 (zstep ph (zEm ph d) 81 12 0 [] L st M) := zEv_step rfl
theorem m142 (ph : Bool) (d : Nat) (a x0 : Int) (M : zM) : zEm ph (d + 1) 142 [(27, a, x0)] M = zEv ph d 142 0 [(27, a, x0), (3, 0, 0), (3, 0, 0), (3, 0, 0)] [] M := rfl
theorem e142_0 (ph : Bool) (d : Nat) (L st : List zV) (M : zM) : zEv ph d 142 0 L st M = zcont ph d 142 (zstep ph (zEm ph d) 0 1 0 [0] L st M) := zEv_step rfl
theorem e142_1 (ph : Bool) (d : Nat) (L st : List zV) (M : zM) : zEv ph d 142 1 L st M = zcont ph d 142 (zstep ph (zEm ph d) 5 2 0 [1] L st M) := zEv_step rfl
theorem e142_2 (ph : Bool) (d : Nat) (L st : List zV) (M : zM) : zEv ph d 142 2 L st M = zcont ph d 142 (zstep ph (zEm ph d) 0 3 0 [0] L st M) := zEv_step rfl
theorem e142_3 (ph : Bool) (d : Nat) (L st : List zV) (M : zM) : zEv ph d 142 3 L st M = zcont ph d 142 (zstep ph (zEm ph d) 5 4 0 [2] L st M) := zEv_step rfl
theorem e142_4 (ph : Bool) (d : Nat) (L st : List zV) (M : zM) : zEv ph d 142 4 L st M = zcont ph d 142 (zstep ph (zEm ph d) 4 5 0 [0] L st M) := zEv_step rfl
theorem e142_5 (ph : Bool) (d : Nat) (L st : List zV) (M : zM) : zEv ph d 142 5 L st M = zcont ph d 142 (zstep ph (zEm ph d) 60 8 0 [27, 3] L st M) := zEv_step rfl
theorem e142_8 (ph : Bool) (d : Nat) (L st : List zV) (M : zM) : zEv ph d 142 8 L st M = zcont ph d 142 (zstep ph (zEm ph d) 4 9 0 [0] L st M) := zEv_step rfl
theorem e142_9 (ph : Bool) (d : Nat) (L st : List zV) (M : zM) : zEv ph d 142 9 L st M = zcont ph d 142 (zstep ph (zEm ph d) 60 12 0 [27, 1] L st M) := zEv_step rfl
theorem e142_12 (ph : Bool) (d : Nat) (L st : List zV) (M : zM) : zEv ph d 142 12 L st M = zcont ph d 142 (zstep ph (zEm ph d) 49 15 131 [] L st M) := zEv_step rfl
theorem e142_15 (ph : Bool) (d : Nat) (L st : List zV) (M : zM) : zEv ph d 142 15 L st M = zcont ph d 142 (zstep ph (zEm ph d) 4 16 0 [0] L st M) := zEv_step rfl
theorem e142_16 (ph : Bool) (d : Nat) (L st : List zV) (M : zM) : zEv ph d 142 16 L st M = zcont ph d 142 (zstep ph (zEm ph d) 62 19 0 [27, 0, 1, 10, 940] L st M) := zEv_step rfl
theorem e142_19 (ph : Bool) (d : Nat) (L st : List zV) (M : zM) : zEv ph d 142 19 L st M = zcont ph d 142 (zstep ph (zEm ph d) 4 20 0 [0] L st M) := zEv_step rfl
theorem e142_20 (ph : Bool) (d : Nat) (L st : List zV) (M : zM) : zEv ph d 142 20 L st M = zcont ph d 142 (zstep ph (zEm ph d) 60 23 0 [27, 3] L st M) := zEv_step rfl
theorem e142_23 (ph : Bool) (d : Nat) (L st : List zV) (M : zM) : zEv ph d 142 23 L st M = zcont ph d 142 (zstep ph (zEm ph d) 85 24 0 [] L st M) := zEv_step rfl
theorem e142_24 (ph : Bool) (d : Nat) (L st : List zV) (M : zM) : zEv ph d 142 24 L st M = zcont ph d 142 (zstep ph (zEm ph d) 70 27 143 [1, 1, -1] L st M) := zEv_step rfl
theorem e142_27 (ph : Bool) (d : Nat) (L st : List zV) (M : zM) : zEv ph d 142 27 L st M = zcont ph d 142 (zstep ph (zEm ph d) 41 30 45 [] L st M) := zEv_step rfl
theorem e142_30 (ph : Bool) (d : Nat) (L st : List zV) (M : zM) : zEv ph d 142 30 L st M = zcont ph d 142 (zstep ph (zEm ph d) 4 31 0 [0] L st M) := zEv_step rfl
theorem e142_31 (ph : Bool) (d : Nat) (L st : List zV) (M : zM) : zEv ph d 142 31 L st M = zcont ph d 142 (zstep ph (zEm ph d) 62 34 0 [27, 0, 1, 10, 940] L st M) := zEv_step rfl
theorem e142_34 (ph : Bool) (d : Nat) (L st : List zV) (M : zM) : zEv ph d 142 34 L st M = zcont ph d 142 (zstep ph (zEm ph d) 4 35 0 [0] L st M) := zEv_step rfl
theorem e142_35 (ph : Bool) (d : Nat) (L st : List zV) (M : zM) : zEv ph d 142 35 L st M = zcont ph d 142 (zstep ph (zEm ph d) 60 38 0 [27, 3] L st M) := zEv_step rfl
theorem e142_38 (ph : Bool) (d : Nat) (L st : List zV) (M : zM) : zEv ph d 142 38 L st M = zcont ph d 142 (zstep ph (zEm ph d) 85 39 0 [] L st M) := zEv_step rfl
theorem e142_39 (ph : Bool) (d : Nat) (L st : List zV) (M : zM) : zEv ph d 142 39 L st M = zcont ph d 142 (zstep ph (zEm ph d) 70 42 144 [1, 1, -1] L st M) := zEv_step rfl
theorem e142_42 (ph : Bool) (d : Nat) (L st : List zV) (M : zM) : zEv ph d 142 42 L st M = zcont ph d 142 (zstep ph (zEm ph d) 40 45 131 [] L st M) := zEv_step rfl
theorem e142_45 (ph : Bool) (d : Nat) (L st : List zV) (M : zM) : zEv ph d 142 45 L st M = zcont ph d 142 (zstep ph (zEm ph d) 4 46 0 [0] L st M) := zEv_step rfl
theorem e142_46 (ph : Bool) (d : Nat) (L st : List zV) (M : zM) : zEv ph d 142 46 L st M = zcont ph d 142 (zstep ph (zEm ph d) 62 49 0 [27, 0, 1, 10, 940] L st M) := zEv_step rfl
theorem e142_49 (ph : Bool) (d : Nat) (L st : List zV) (M : zM) : zEv ph d 142 49 L st M = zcont ph d 142 (zstep ph (zEm ph d) 4 50 0 [0] L st M) := zEv_step rfl
theorem e142_50 (ph : Bool) (d : Nat) (L st : List zV) (M : zM) : zEv ph d 142 50 L st M = zcont ph d 142 (zstep ph (zEm ph d) 60 53 0 [27, 3] L st M) := zEv_step rfl
theorem e142_53 (ph : Bool) (d : Nat) (L st : List zV) (M : zM) : zEv ph d 142 53 L st M = zcont ph d 142 (zstep ph (zEm ph d) 85 54 0 [] L st M) := zEv_step rfl
theorem e142_54 (ph : Bool) (d : Nat) (L st : List zV) (M : zM) : zEv ph d 142 54 L st M = zcont ph d 142 (zstep ph (zEm ph d) 5 55 0 [3] L st M) := zEv_step rfl
theorem e142_55 (ph : Bool) (d : Nat) (L st : List zV) (M : zM) : zEv ph d 142 55 L st M = zcont ph d 142 (zstep ph (zEm ph d) 2 56 0 [3] L st M) := zEv_step rfl
theorem e142_56 (ph : Bool) (d : Nat) (L st : List zV) (M : zM) : zEv ph d 142 56 L st M = zcont ph d 142 (zstep ph (zEm ph d) 70 59 144 [1, 1, -1] L st M) := zEv_step rfl
theorem e142_59 (ph : Bool) (d : Nat) (L st : List zV) (M : zM) : zEv ph d 142 59 L st M = zcont ph d 142 (zstep ph (zEm ph d) 40 62 93 [] L st M) := zEv_step rfl
theorem e142_62 (ph : Bool) (d : Nat) (L st : List zV) (M : zM) : zEv ph d 142 62 L st M = zcont ph d 142 (zstep ph (zEm ph d) 8 65 0 [2, 1] L st M) := zEv_step rfl
theorem e142_65 (ph : Bool) (d : Nat) (L st : List zV) (M : zM) : zEv ph d 142 65 L st M = zcont ph d 142 (zstep ph (zEm ph d) 4 66 0 [0] L st M) := zEv_step rfl
theorem e142_66 (ph : Bool) (d : Nat) (L st : List zV) (M : zM) : zEv ph d 142 66 L st M = zcont ph d 142 (zstep ph (zEm ph d) 2 67 0 [2] L st M) := zEv_step rfl
theorem e142_67 (ph : Bool) (d : Nat) (L st : List zV) (M : zM) : zEv ph d 142 67 L st M = zcont ph d 142 (zstep ph (zEm ph d) 0 68 0 [3] L st M) := zEv_step rfl
theorem e142_68 (ph : Bool) (d : Nat) (L st : List zV) (M : zM) : zEv ph d 142 68 L st M = zcont ph d 142 (zstep ph (zEm ph d) 50 71 86 [] L st M) := zEv_step rfl
theorem e142_71 (ph : Bool) (d : Nat) (L st : List zV) (M : zM) : zEv ph d 142 71 L st M = zcont ph d 142 (zstep ph (zEm ph d) 4 72 0 [0] L st M) := zEv_step rfl
theorem e142_72 (ph : Bool) (d : Nat) (L st : List zV) (M : zM) : zEv ph d 142 72 L st M = zcont ph d 142 (zstep ph (zEm ph d) 60 75 0 [27, 6] L st M) := zEv_step rfl
theorem e142_75 (ph : Bool) (d : Nat) (L st : List zV) (M : zM) : zEv ph d 142 75 L st M = zcont ph d 142 (zstep ph (zEm ph d) 0 77 0 [10] L st M) := zEv_step rfl
theorem e142_77 (ph : Bool) (d : Nat) (L st : List zV) (M : zM) : zEv ph d 142 77 L st M = zcont ph d 142 (zstep ph (zEm ph d) 12 78 0 [] L st M) := zEv_step rfl
theorem e142_78 (ph : Bool) (d : Nat) (L st : List zV) (M : zM) : zEv ph d 142 78 L st M = zcont ph d 142 (zstep ph (zEm ph d) 2 79 0 [3] L st M) := zEv_step rfl
theorem e142_79 (ph : Bool) (d : Nat) (L st : List zV) (M : zM) : zEv ph d 142 79 L st M = zcont ph d 142 (zstep ph (zEm ph d) 10 80 0 [] L st M) := zEv_step rfl
theorem e142_80 (ph : Bool) (d : Nat) (L st : List zV) (M : zM) : zEv ph d 142 80 L st M = zcont ph d 142 (zstep ph (zEm ph d) 0 82 0 [48] L st M) := zEv_step rfl
theorem e142_82 (ph : Bool) (d : Nat) (L st : List zV) (M : zM) : zEv ph d 142 82 L st M = zcont ph d 142 (zstep ph (zEm ph d) 11 83 0 [] L st M) := zEv_step rfl
theorem e142_83 (ph : Bool) (d : Nat) (L st : List zV) (M : zM) : zEv ph d 142 83 L st M = zcont ph d 142 (zstep ph (zEm ph d) 52 86 87 [] L st M) := zEv_step rfl
theorem e142_86 (ph : Bool) (d : Nat) (L st : List zV) (M : zM) : zEv ph d 142 86 L st M = zcont ph d 142 (zstep ph (zEm ph d) 0 87 0 [0] L st M) := zEv_step rfl
theorem e142_87 (ph : Bool) (d : Nat) (L st : List zV) (M : zM) : zEv ph d 142 87 L st M = zcont ph d 142 (zstep ph (zEm ph d) 65 90 0 [27, 6] L st M) := zEv_step rfl
theorem e142_90 (ph : Bool) (d : Nat) (L st : List zV) (M : zM) : zEv ph d 142 90 L st M = zcont ph d 142 (zstep ph (zEm ph d) 52 93 118 [] L st M) := zEv_step rfl
theorem e142_93 (ph : Bool) (d : Nat) (L st : List zV) (M : zM) : zEv ph d 142 93 L st M = zcont ph d 142 (zstep ph (zEm ph d) 8 96 0 [1, 1] L st M) := zEv_step rfl
theorem e142_96 (ph : Bool) (d : Nat) (L st : List zV) (M : zM) : zEv ph d 142 96 L st M = zcont ph d 142 (zstep ph (zEm ph d) 4 97 0 [0] L st M) := zEv_step rfl
theorem e142_97 (ph : Bool) (d : Nat) (L st : List zV) (M : zM) : zEv ph d 142 97 L st M = zcont ph d 142 (zstep ph (zEm ph d) 2 98 0 [1] L st M) := zEv_step rfl
theorem e142_98 (ph : Bool) (d : Nat) (L st : List zV) (M : zM) : zEv ph d 142 98 L st M = zcont ph d 142 (zstep ph (zEm ph d) 0 100 0 [8] L st M) := zEv_step rfl
theorem e142_100 (ph : Bool) (d : Nat) (L st : List zV) (M : zM) : zEv ph d 142 100 L st M = zcont ph d 142 (zstep ph (zEm ph d) 50 103 114 [] L st M) := zEv_step rfl
theorem e142_103 (ph : Bool) (d : Nat) (L st : List zV) (M : zM) : zEv ph d 142 103 L st M = zcont ph d 142 (zstep ph (zEm ph d) 4 104 0 [0] L st M) := zEv_step rfl
theorem e142_104 (ph : Bool) (d : Nat) (L st : List zV) (M : zM) : zEv ph d 142 104 L st M = zcont ph d 142 (zstep ph (zEm ph d) 61 107 0 [27, 8] L st M) := zEv_step rfl
theorem e142_107 (ph : Bool) (d : Nat) (L st : List zV) (M : zM) : zEv ph d 142 107 L st M = zcont ph d 142 (zstep ph (zEm ph d) 2 108 0 [3] L st M) := zEv_step rfl
theorem e142_108 (ph : Bool) (d : Nat) (L st : List zV) (M : zM) : zEv ph d 142 108 L st M = zcont ph d 142 (zstep ph (zEm ph d) 70 111 160 [2, 1, -1] L st M) := zEv_step rfl
theorem e142_111 (ph : Bool) (d : Nat) (L st : List zV) (M : zM) : zEv ph d 142 111 L st M = zcont ph d 142 (zstep ph (zEm ph d) 52 114 115 [] L st M) := zEv_step rfl
theorem e142_114 (ph : Bool) (d : Nat) (L st : List zV) (M : zM) : zEv ph d 142 114 L st M = zcont ph d 142 (zstep ph (zEm ph d) 1 115 0 [0] L st M) := zEv_step rfl
theorem e142_115 (ph : Bool) (d : Nat) (L st : List zV) (M : zM) : zEv ph d 142 115 L st M = zcont ph d 142 (zstep ph (zEm ph d) 66 118 0 [27, 8] L st M) := zEv_step rfl
theorem e142_118 (ph : Bool) (d : Nat) (L st : List zV) (M : zM) : zEv ph d 142 118 L st M = zcont ph d 142 (zstep ph (zEm ph d) 4 119 0 [0] L st M) := zEv_step rfl
theorem e142_119 (ph : Bool) (d : Nat) (L st : List zV) (M : zM) : zEv ph d 142 119 L st M = zcont ph d 142 (zstep ph (zEm ph d) 36 120 0 [] L st M) := zEv_step rfl
theorem e142_120 (ph : Bool) (d : Nat) (L st : List zV) (M : zM) : zEv ph d 142 120 L st M = zcont ph d 142 (zstep ph (zEm ph d) 60 123 0 [27, 3] L st M) := zEv_step rfl
theorem e142_123 (ph : Bool) (d : Nat) (L st : List zV) (M : zM) : zEv ph d 142 123 L st M = zcont ph d 142 (zstep ph (zEm ph d) 0 124 0 [1] L st M) := zEv_step rfl
theorem e142_124 (ph : Bool) (d : Nat) (L st : List zV) (M : zM) : zEv ph d 142 124 L st M = zcont ph d 142 (zstep ph (zEm ph d) 10 125 0 [] L st M) := zEv_step rfl
theorem e142_125 (ph : Bool) (d : Nat) (L st : List zV) (M : zM) : zEv ph d 142 125 L st M = zcont ph d 142 (zstep ph (zEm ph d) 65 128 0 [27, 3] L st M) := zEv_step rfl
theorem e142_128 (ph : Bool) (d : Nat) (L st : List zV) (M : zM) : zEv ph d 142 128 L st M = zcont ph d 142 (zstep ph (zEm ph d) 52 131 4 [] L st M) := zEv_step rfl
theorem e142_131 (ph : Bool) (d : Nat) (L st : List zV) (M : zM) : zEv ph d 142 131 L st M = zcont ph d 142 (zstep ph (zEm ph d) 2 132 0 [2] L st M) := zEv_step rfl
theorem e142_132 (ph : Bool) (d : Nat) (L st : List zV) (M : zM) : zEv ph d 142 132 L st M = zcont ph d 142 (zstep ph (zEm ph d) 41 135 160 [] L st M) := zEv_step rfl
theorem e142_135 (ph : Bool) (d : Nat) (L st : List zV) (M : zM) : zEv ph d 142 135 L st M = zcont ph d 142 (zstep ph (zEm ph d) 2 136 0 [1] L st M) := zEv_step rfl
theorem e142_136 (ph : Bool) (d : Nat) (L st : List zV) (M : zM) : zEv ph d 142 136 L st M = zcont ph d 142 (zstep ph (zEm ph d) 0 138 0 [8] L st M) := zEv_step rfl
theorem e142_138 (ph : Bool) (d : Nat) (L st : List zV) (M : zM) : zEv ph d 142 138 L st M = zcont ph d 142 (zstep ph (zEm ph d) 50 141 160 [] L st M) := zEv_step rfl
theorem e142_141 (ph : Bool) (d : Nat) (L st : List zV) (M : zM) : zEv ph d 142 141 L st M = zcont ph d 142 (zstep ph (zEm ph d) 4 142 0 [0] L st M) := zEv_step rfl
theorem e142_142 (ph : Bool) (d : Nat) (L st : List zV) (M : zM) : zEv ph d 142 142 L st M = zcont ph d 142 (zstep ph (zEm ph d) 0 143 0 [2] L st M) := zEv_step rfl
theorem e142_143 (ph : Bool) (d : Nat) (L st : List zV) (M : zM) : zEv ph d 142 143 L st M = zcont ph d 142 (zstep ph (zEm ph d) 65 146 0 [27, 5] L st M) := zEv_step rfl
theorem e142_146 (ph : Bool) (d : Nat) (L st : List zV) (M : zM) : zEv ph d 142 146 L st M = zcont ph d 142 (zstep ph (zEm ph d) 4 147 0 [0] L st M) := zEv_step rfl
theorem e142_147 (ph : Bool) (d : Nat) (L st : List zV) (M : zM) : zEv ph d 142 147 L st M = zcont ph d 142 (zstep ph (zEm ph d) 4 148 0 [0] L st M) := zEv_step rfl
theorem e142_148 (ph : Bool) (d : Nat) (L st : List zV) (M : zM) : zEv ph d 142 148 L st M = zcont ph d 142 (zstep ph (zEm ph d) 61 151 0 [27, 8] L st M) := zEv_step rfl
theorem e142_151 (ph : Bool) (d : Nat) (L st : List zV) (M : zM) : zEv ph d 142 151 L st M = zcont ph d 142 (zstep ph (zEm ph d) 70 154 161 [1, 1, -1] L st M) := zEv_step rfl
theorem e142_154 (ph : Bool) (d : Nat) (L st : List zV) (M : zM) : zEv ph d 142 154 L st M = zcont ph d 142 (zstep ph (zEm ph d) 68 157 0 [27, 7] L st M) := zEv_step rfl
theorem e142_157 (ph : Bool) (d : Nat) (L st : List zV) (M : zM) : zEv ph d 142 157 L st M = zcont ph d 142 (zstep ph (zEm ph d) 52 160 182 [] L st M) := zEv_step rfl
theorem e142_160 (ph : Bool) (d : Nat) (L st : List zV) (M : zM) : zEv ph d 142 160 L st M = zcont ph d 142 (zstep ph (zEm ph d) 2 161 0 [1] L st M) := zEv_step rfl
theorem e142_161 (ph : Bool) (d : Nat) (L st : List zV) (M : zM) : zEv ph d 142 161 L st M = zcont ph d 142 (zstep ph (zEm ph d) 41 164 177 [] L st M) := zEv_step rfl
theorem e142_164 (ph : Bool) (d : Nat) (L st : List zV) (M : zM) : zEv ph d 142 164 L st M = zcont ph d 142 (zstep ph (zEm ph d) 2 165 0 [2] L st M) := zEv_step rfl
theorem e142_165 (ph : Bool) (d : Nat) (L st : List zV) (M : zM) : zEv ph d 142 165 L st M = zcont ph d 142 (zstep ph (zEm ph d) 0 166 0 [3] L st M) := zEv_step rfl
theorem e142_166 (ph : Bool) (d : Nat) (L st : List zV) (M : zM) : zEv ph d 142 166 L st M = zcont ph d 142 (zstep ph (zEm ph d) 50 169 177 [] L st M) := zEv_step rfl
theorem e142_169 (ph : Bool) (d : Nat) (L st : List zV) (M : zM) : zEv ph d 142 169 L st M = zcont ph d 142 (zstep ph (zEm ph d) 4 170 0 [0] L st M) := zEv_step rfl
theorem e142_170 (ph : Bool) (d : Nat) (L st : List zV) (M : zM) : zEv ph d 142 170 L st M = zcont ph d 142 (zstep ph (zEm ph d) 0 171 0 [3] L st M) := zEv_step rfl
theorem e142_171 (ph : Bool) (d : Nat) (L st : List zV) (M : zM) : zEv ph d 142 171 L st M = zcont ph d 142 (zstep ph (zEm ph d) 65 174 0 [27, 5] L st M) := zEv_step rfl
theorem e142_174 (ph : Bool) (d : Nat) (L st : List zV) (M : zM) : zEv ph d 142 174 L st M = zcont ph d 142 (zstep ph (zEm ph d) 52 177 182 [] L st M) := zEv_step rfl
theorem e142_177 (ph : Bool) (d : Nat) (L st : List zV) (M : zM) : zEv ph d 142 177 L st M = zcont ph d 142 (zstep ph (zEm ph d) 4 178 0 [0] L st M) := zEv_step rfl
theorem e142_178 (ph : Bool) (d : Nat) (L st : List zV) (M : zM) : zEv ph d 142 178 L st M = zcont ph d 142 (zstep ph (zEm ph d) 0 179 0 [1] L st M) := zEv_step rfl
theorem e142_179 (ph : Bool) (d : Nat) (L st : List zV) (M : zM) : zEv ph d 142 179 L st M = zcont ph d 142 (zstep ph (zEm ph d) 65 182 0 [27, 5] L st M) := zEv_step rfl
theorem e142_182 (ph : Bool) (d : Nat) (L st : List zV) (M : zM) : zEv ph d 142 182 L st M = zcont ph d 142 (zstep ph (zEm ph d) 83 183 0 [] L st M) := zEv_step rfl
theorem m176 (ph : Bool) (d : Nat) (a x0 : Int) (M : zM) : zEm ph (d + 1) 176 [(30, a, x0)] M = zEv ph d 176 0 [(30, a, x0), (3, 0, 0), (3, 0, 0), (3, 0, 0), (3, 0, 0)] [] M := rfl
theorem e176_0 (ph : Bool) (d : Nat) (L st : List zV) (M : zM) : zEv ph d 176 0 L st M = zcont ph d 176 (zstep ph (zEm ph d) 4 1 0 [0] L st M) := zEv_step rfl
theorem e176_1 (ph : Bool) (d : Nat) (L st : List zV) (M : zM) : zEv ph d 176 1 L st M = zcont ph d 176 (zstep ph (zEm ph d) 60 4 0 [30, 5] L st M) := zEv_step rfl
theorem e176_4 (ph : Bool) (d : Nat) (L st : List zV) (M : zM) : zEv ph d 176 4 L st M = zcont ph d 176 (zstep ph (zEm ph d) 4 5 0 [0] L st M) := zEv_step rfl
theorem e176_5 (ph : Bool) (d : Nat) (L st : List zV) (M : zM) : zEv ph d 176 5 L st M = zcont ph d 176 (zstep ph (zEm ph d) 60 8 0 [30, 3] L st M) := zEv_step rfl
theorem e176_8 (ph : Bool) (d : Nat) (L st : List zV) (M : zM) : zEv ph d 176 8 L st M = zcont ph d 176 (zstep ph (zEm ph d) 49 11 52 [] L st M) := zEv_step rfl
theorem e176_11 (ph : Bool) (d : Nat) (L st : List zV) (M : zM) : zEv ph d 176 11 L st M = zcont ph d 176 (zstep ph (zEm ph d) 4 12 0 [0] L st M) := zEv_step rfl
theorem e176_12 (ph : Bool) (d : Nat) (L st : List zV) (M : zM) : zEv ph d 176 12 L st M = zcont ph d 176 (zstep ph (zEm ph d) 62 15 0 [30, 1, 1, 10, 940] L st M) := zEv_step rfl
theorem e176_15 (ph : Bool) (d : Nat) (L st : List zV) (M : zM) : zEv ph d 176 15 L st M = zcont ph d 176 (zstep ph (zEm ph d) 4 16 0 [0] L st M) := zEv_step rfl
theorem e176_16 (ph : Bool) (d : Nat) (L st : List zV) (M : zM) : zEv ph d 176 16 L st M = zcont ph d 176 (zstep ph (zEm ph d) 60 19 0 [30, 5] L st M) := zEv_step rfl
theorem e176_19 (ph : Bool) (d : Nat) (L st : List zV) (M : zM) : zEv ph d 176 19 L st M = zcont ph d 176 (zstep ph (zEm ph d) 85 20 0 [] L st M) := zEv_step rfl
theorem e176_20 (ph : Bool) (d : Nat) (L st : List zV) (M : zM) : zEv ph d 176 20 L st M = zcont ph d 176 (zstep ph (zEm ph d) 0 22 0 [32] L st M) := zEv_step rfl
theorem e176_22 (ph : Bool) (d : Nat) (L st : List zV) (M : zM) : zEv ph d 176 22 L st M = zcont ph d 176 (zstep ph (zEm ph d) 46 25 39 [] L st M) := zEv_step rfl
theorem e176_25 (ph : Bool) (d : Nat) (L st : List zV) (M : zM) : zEv ph d 176 25 L st M = zcont ph d 176 (zstep ph (zEm ph d) 4 26 0 [0] L st M) := zEv_step rfl
theorem e176_26 (ph : Bool) (d : Nat) (L st : List zV) (M : zM) : zEv ph d 176 26 L st M = zcont ph d 176 (zstep ph (zEm ph d) 62 29 0 [30, 1, 1, 10, 940] L st M) := zEv_step rfl
theorem e176_29 (ph : Bool) (d : Nat) (L st : List zV) (M : zM) : zEv ph d 176 29 L st M = zcont ph d 176 (zstep ph (zEm ph d) 4 30 0 [0] L st M) := zEv_step rfl
theorem e176_30 (ph : Bool) (d : Nat) (L st : List zV) (M : zM) : zEv ph d 176 30 L st M = zcont ph d 176 (zstep ph (zEm ph d) 60 33 0 [30, 5] L st M) := zEv_step rfl
theorem e176_33 (ph : Bool) (d : Nat) (L st : List zV) (M : zM) : zEv ph d 176 33 L st M = zcont ph d 176 (zstep ph (zEm ph d) 85 34 0 [] L st M) := zEv_step rfl
theorem e176_34 (ph : Bool) (d : Nat) (L st : List zV) (M : zM) : zEv ph d 176 34 L st M = zcont ph d 176 (zstep ph (zEm ph d) 0 36 0 [10] L st M) := zEv_step rfl
theorem e176_36 (ph : Bool) (d : Nat) (L st : List zV) (M : zM) : zEv ph d 176 36 L st M = zcont ph d 176 (zstep ph (zEm ph d) 47 39 52 [] L st M) := zEv_step rfl
theorem e176_39 (ph : Bool) (d : Nat) (L st : List zV) (M : zM) : zEv ph d 176 39 L st M = zcont ph d 176 (zstep ph (zEm ph d) 4 40 0 [0] L st M) := zEv_step rfl
theorem e176_40 (ph : Bool) (d : Nat) (L st : List zV) (M : zM) : zEv ph d 176 40 L st M = zcont ph d 176 (zstep ph (zEm ph d) 36 41 0 [] L st M) := zEv_step rfl
theorem e176_41 (ph : Bool) (d : Nat) (L st : List zV) (M : zM) : zEv ph d 176 41 L st M = zcont ph d 176 (zstep ph (zEm ph d) 60 44 0 [30, 5] L st M) := zEv_step rfl
theorem e176_44 (ph : Bool) (d : Nat) (L st : List zV) (M : zM) : zEv ph d 176 44 L st M = zcont ph d 176 (zstep ph (zEm ph d) 0 45 0 [1] L st M) := zEv_step rfl
theorem e176_45 (ph : Bool) (d : Nat) (L st : List zV) (M : zM) : zEv ph d 176 45 L st M = zcont ph d 176 (zstep ph (zEm ph d) 10 46 0 [] L st M) := zEv_step rfl
theorem e176_46 (ph : Bool) (d : Nat) (L st : List zV) (M : zM) : zEv ph d 176 46 L st M = zcont ph d 176 (zstep ph (zEm ph d) 65 49 0 [30, 5] L st M) := zEv_step rfl
theorem e176_49 (ph : Bool) (d : Nat) (L st : List zV) (M : zM) : zEv ph d 176 49 L st M = zcont ph d 176 (zstep ph (zEm ph d) 52 52 0 [] L st M) := zEv_step rfl
theorem e176_52 (ph : Bool) (d : Nat) (L st : List zV) (M : zM) : zEv ph d 176 52 L st M = zcont ph d 176 (zstep ph (zEm ph d) 4 53 0 [0] L st M) := zEv_step rfl
theorem e176_53 (ph : Bool) (d : Nat) (L st : List zV) (M : zM) : zEv ph d 176 53 L st M = zcont ph d 176 (zstep ph (zEm ph d) 4 54 0 [0] L st M) := zEv_step rfl
theorem e176_54 (ph : Bool) (d : Nat) (L st : List zV) (M : zM) : zEv ph d 176 54 L st M = zcont ph d 176 (zstep ph (zEm ph d) 60 57 0 [30, 5] L st M) := zEv_step rfl
theorem e176_57 (ph : Bool) (d : Nat) (L st : List zV) (M : zM) : zEv ph d 176 57 L st M = zcont ph d 176 (zstep ph (zEm ph d) 65 60 0 [30, 6] L st M) := zEv_step rfl
theorem e176_60 (ph : Bool) (d : Nat) (L st : List zV) (M : zM) : zEv ph d 176 60 L st M = zcont ph d 176 (zstep ph (zEm ph d) 4 61 0 [0] L st M) := zEv_step rfl
theorem e176_61 (ph : Bool) (d : Nat) (L st : List zV) (M : zM) : zEv ph d 176 61 L st M = zcont ph d 176 (zstep ph (zEm ph d) 60 64 0 [30, 3] L st M) := zEv_step rfl
theorem e176_64 (ph : Bool) (d : Nat) (L st : List zV) (M : zM) : zEv ph d 176 64 L st M = zcont ph d 176 (zstep ph (zEm ph d) 4 65 0 [0] L st M) := zEv_step rfl
theorem e176_65 (ph : Bool) (d : Nat) (L st : List zV) (M : zM) : zEv ph d 176 65 L st M = zcont ph d 176 (zstep ph (zEm ph d) 60 68 0 [30, 4] L st M) := zEv_step rfl
theorem e176_68 (ph : Bool) (d : Nat) (L st : List zV) (M : zM) : zEv ph d 176 68 L st M = zcont ph d 176 (zstep ph (zEm ph d) 51 71 96 [] L st M) := zEv_step rfl
theorem e176_71 (ph : Bool) (d : Nat) (L st : List zV) (M : zM) : zEv ph d 176 71 L st M = zcont ph d 176 (zstep ph (zEm ph d) 4 72 0 [0] L st M) := zEv_step rfl
theorem e176_72 (ph : Bool) (d : Nat) (L st : List zV) (M : zM) : zEv ph d 176 72 L st M = zcont ph d 176 (zstep ph (zEm ph d) 60 75 0 [30, 6] L st M) := zEv_step rfl
theorem e176_75 (ph : Bool) (d : Nat) (L st : List zV) (M : zM) : zEv ph d 176 75 L st M = zcont ph d 176 (zstep ph (zEm ph d) 4 76 0 [0] L st M) := zEv_step rfl
theorem e176_76 (ph : Bool) (d : Nat) (L st : List zV) (M : zM) : zEv ph d 176 76 L st M = zcont ph d 176 (zstep ph (zEm ph d) 60 79 0 [30, 4] L st M) := zEv_step rfl
theorem e176_79 (ph : Bool) (d : Nat) (L st : List zV) (M : zM) : zEv ph d 176 79 L st M = zcont ph d 176 (zstep ph (zEm ph d) 48 82 96 [] L st M) := zEv_step rfl
theorem e176_82 (ph : Bool) (d : Nat) (L st : List zV) (M : zM) : zEv ph d 176 82 L st M = zcont ph d 176 (zstep ph (zEm ph d) 4 83 0 [0] L st M) := zEv_step rfl
theorem e176_83 (ph : Bool) (d : Nat) (L st : List zV) (M : zM) : zEv ph d 176 83 L st M = zcont ph d 176 (zstep ph (zEm ph d) 4 84 0 [0] L st M) := zEv_step rfl
theorem e176_84 (ph : Bool) (d : Nat) (L st : List zV) (M : zM) : zEv ph d 176 84 L st M = zcont ph d 176 (zstep ph (zEm ph d) 60 87 0 [30, 4] L st M) := zEv_step rfl
theorem e176_87 (ph : Bool) (d : Nat) (L st : List zV) (M : zM) : zEv ph d 176 87 L st M = zcont ph d 176 (zstep ph (zEm ph d) 65 90 0 [30, 6] L st M) := zEv_step rfl
theorem e176_90 (ph : Bool) (d : Nat) (L st : List zV) (M : zM) : zEv ph d 176 90 L st M = zcont ph d 176 (zstep ph (zEm ph d) 4 91 0 [0] L st M) := zEv_step rfl
theorem e176_91 (ph : Bool) (d : Nat) (L st : List zV) (M : zM) : zEv ph d 176 91 L st M = zcont ph d 176 (zstep ph (zEm ph d) 0 92 0 [1] L st M) := zEv_step rfl
theorem e176_92 (ph : Bool) (d : Nat) (L st : List zV) (M : zM) : zEv ph d 176 92 L st M = zcont ph d 176 (zstep ph (zEm ph d) 65 95 0 [30, 7] L st M) := zEv_step rfl
theorem e176_95 (ph : Bool) (d : Nat) (L st : List zV) (M : zM) : zEv ph d 176 95 L st M = zcont ph d 176 (zstep ph (zEm ph d) 83 96 0 [] L st M) := zEv_step rfl
theorem e176_96 (ph : Bool) (d : Nat) (L st : List zV) (M : zM) : zEv ph d 176 96 L st M = zcont ph d 176 (zstep ph (zEm ph d) 4 97 0 [0] L st M) := zEv_step rfl
theorem e176_97 (ph : Bool) (d : Nat) (L st : List zV) (M : zM) : zEv ph d 176 97 L st M = zcont ph d 176 (zstep ph (zEm ph d) 60 100 0 [30, 5] L st M) := zEv_step rfl
theorem e176_100 (ph : Bool) (d : Nat) (L st : List zV) (M : zM) : zEv ph d 176 100 L st M = zcont ph d 176 (zstep ph (zEm ph d) 4 101 0 [0] L st M) := zEv_step rfl
theorem e176_101 (ph : Bool) (d : Nat) (L st : List zV) (M : zM) : zEv ph d 176 101 L st M = zcont ph d 176 (zstep ph (zEm ph d) 60 104 0 [30, 3] L st M) := zEv_step rfl
theorem e176_104 (ph : Bool) (d : Nat) (L st : List zV) (M : zM) : zEv ph d 176 104 L st M = zcont ph d 176 (zstep ph (zEm ph d) 48 107 113 [] L st M) := zEv_step rfl
theorem e176_107 (ph : Bool) (d : Nat) (L st : List zV) (M : zM) : zEv ph d 176 107 L st M = zcont ph d 176 (zstep ph (zEm ph d) 4 108 0 [0] L st M) := zEv_step rfl
theorem e176_108 (ph : Bool) (d : Nat) (L st : List zV) (M : zM) : zEv ph d 176 108 L st M = zcont ph d 176 (zstep ph (zEm ph d) 0 109 0 [0] L st M) := zEv_step rfl
theorem e176_109 (ph : Bool) (d : Nat) (L st : List zV) (M : zM) : zEv ph d 176 109 L st M = zcont ph d 176 (zstep ph (zEm ph d) 65 112 0 [30, 7] L st M) := zEv_step rfl
theorem e176_112 (ph : Bool) (d : Nat) (L st : List zV) (M : zM) : zEv ph d 176 112 L st M = zcont ph d 176 (zstep ph (zEm ph d) 83 113 0 [] L st M) := zEv_step rfl
theorem e176_113 (ph : Bool) (d : Nat) (L st : List zV) (M : zM) : zEv ph d 176 113 L st M = zcont ph d 176 (zstep ph (zEm ph d) 4 114 0 [0] L st M) := zEv_step rfl
theorem e176_114 (ph : Bool) (d : Nat) (L st : List zV) (M : zM) : zEv ph d 176 114 L st M = zcont ph d 176 (zstep ph (zEm ph d) 62 117 0 [30, 1, 1, 10, 940] L st M) := zEv_step rfl
theorem e176_117 (ph : Bool) (d : Nat) (L st : List zV) (M : zM) : zEv ph d 176 117 L st M = zcont ph d 176 (zstep ph (zEm ph d) 4 118 0 [0] L st M) := zEv_step rfl
theorem e176_118 (ph : Bool) (d : Nat) (L st : List zV) (M : zM) : zEv ph d 176 118 L st M = zcont ph d 176 (zstep ph (zEm ph d) 60 121 0 [30, 5] L st M) := zEv_step rfl
theorem e176_121 (ph : Bool) (d : Nat) (L st : List zV) (M : zM) : zEv ph d 176 121 L st M = zcont ph d 176 (zstep ph (zEm ph d) 85 122 0 [] L st M) := zEv_step rfl
theorem e176_122 (ph : Bool) (d : Nat) (L st : List zV) (M : zM) : zEv ph d 176 122 L st M = zcont ph d 176 (zstep ph (zEm ph d) 5 123 0 [1] L st M) := zEv_step rfl
theorem e176_123 (ph : Bool) (d : Nat) (L st : List zV) (M : zM) : zEv ph d 176 123 L st M = zcont ph d 176 (zstep ph (zEm ph d) 2 124 0 [1] L st M) := zEv_step rfl
theorem e176_124 (ph : Bool) (d : Nat) (L st : List zV) (M : zM) : zEv ph d 176 124 L st M = zcont ph d 176 (zstep ph (zEm ph d) 70 127 175 [1, 1, -1] L st M) := zEv_step rfl
theorem e176_127 (ph : Bool) (d : Nat) (L st : List zV) (M : zM) : zEv ph d 176 127 L st M = zcont ph d 176 (zstep ph (zEm ph d) 41 130 198 [] L st M) := zEv_step rfl
theorem e176_130 (ph : Bool) (d : Nat) (L st : List zV) (M : zM) : zEv ph d 176 130 L st M = zcont ph d 176 (zstep ph (zEm ph d) 2 131 0 [1] L st M) := zEv_step rfl
theorem e176_131 (ph : Bool) (d : Nat) (L st : List zV) (M : zM) : zEv ph d 176 131 L st M = zcont ph d 176 (zstep ph (zEm ph d) 70 134 174 [1, 1, -1] L st M) := zEv_step rfl
theorem e176_134 (ph : Bool) (d : Nat) (L st : List zV) (M : zM) : zEv ph d 176 134 L st M = zcont ph d 176 (zstep ph (zEm ph d) 41 137 198 [] L st M) := zEv_step rfl
theorem e176_137 (ph : Bool) (d : Nat) (L st : List zV) (M : zM) : zEv ph d 176 137 L st M = zcont ph d 176 (zstep ph (zEm ph d) 4 138 0 [0] L st M) := zEv_step rfl
theorem e176_138 (ph : Bool) (d : Nat) (L st : List zV) (M : zM) : zEv ph d 176 138 L st M = zcont ph d 176 (zstep ph (zEm ph d) 2 139 0 [1] L st M) := zEv_step rfl
theorem e176_139 (ph : Bool) (d : Nat) (L st : List zV) (M : zM) : zEv ph d 176 139 L st M = zcont ph d 176 (zstep ph (zEm ph d) 0 141 0 [59] L st M) := zEv_step rfl
theorem e176_141 (ph : Bool) (d : Nat) (L st : List zV) (M : zM) : zEv ph d 176 141 L st M = zcont ph d 176 (zstep ph (zEm ph d) 46 144 174 [] L st M) := zEv_step rfl
theorem e176_144 (ph : Bool) (d : Nat) (L st : List zV) (M : zM) : zEv ph d 176 144 L st M = zcont ph d 176 (zstep ph (zEm ph d) 2 145 0 [1] L st M) := zEv_step rfl
theorem e176_145 (ph : Bool) (d : Nat) (L st : List zV) (M : zM) : zEv ph d 176 145 L st M = zcont ph d 176 (zstep ph (zEm ph d) 0 147 0 [60] L st M) := zEv_step rfl
theorem e176_147 (ph : Bool) (d : Nat) (L st : List zV) (M : zM) : zEv ph d 176 147 L st M = zcont ph d 176 (zstep ph (zEm ph d) 46 150 174 [] L st M) := zEv_step rfl
theorem e176_150 (ph : Bool) (d : Nat) (L st : List zV) (M : zM) : zEv ph d 176 150 L st M = zcont ph d 176 (zstep ph (zEm ph d) 2 151 0 [1] L st M) := zEv_step rfl
theorem e176_151 (ph : Bool) (d : Nat) (L st : List zV) (M : zM) : zEv ph d 176 151 L st M = zcont ph d 176 (zstep ph (zEm ph d) 0 153 0 [61] L st M) := zEv_step rfl
theorem e176_153 (ph : Bool) (d : Nat) (L st : List zV) (M : zM) : zEv ph d 176 153 L st M = zcont ph d 176 (zstep ph (zEm ph d) 46 156 174 [] L st M) := zEv_step rfl
theorem e176_156 (ph : Bool) (d : Nat) (L st : List zV) (M : zM) : zEv ph d 176 156 L st M = zcont ph d 176 (zstep ph (zEm ph d) 2 157 0 [1] L st M) := zEv_step rfl
theorem e176_157 (ph : Bool) (d : Nat) (L st : List zV) (M : zM) : zEv ph d 176 157 L st M = zcont ph d 176 (zstep ph (zEm ph d) 0 159 0 [62] L st M) := zEv_step rfl
theorem e176_159 (ph : Bool) (d : Nat) (L st : List zV) (M : zM) : zEv ph d 176 159 L st M = zcont ph d 176 (zstep ph (zEm ph d) 46 162 174 [] L st M) := zEv_step rfl
theorem e176_162 (ph : Bool) (d : Nat) (L st : List zV) (M : zM) : zEv ph d 176 162 L st M = zcont ph d 176 (zstep ph (zEm ph d) 2 163 0 [1] L st M) := zEv_step rfl
theorem e176_163 (ph : Bool) (d : Nat) (L st : List zV) (M : zM) : zEv ph d 176 163 L st M = zcont ph d 176 (zstep ph (zEm ph d) 0 165 0 [40] L st M) := zEv_step rfl
theorem e176_165 (ph : Bool) (d : Nat) (L st : List zV) (M : zM) : zEv ph d 176 165 L st M = zcont ph d 176 (zstep ph (zEm ph d) 46 168 174 [] L st M) := zEv_step rfl
theorem e176_168 (ph : Bool) (d : Nat) (L st : List zV) (M : zM) : zEv ph d 176 168 L st M = zcont ph d 176 (zstep ph (zEm ph d) 2 169 0 [1] L st M) := zEv_step rfl
theorem e176_169 (ph : Bool) (d : Nat) (L st : List zV) (M : zM) : zEv ph d 176 169 L st M = zcont ph d 176 (zstep ph (zEm ph d) 0 171 0 [41] L st M) := zEv_step rfl
theorem e176_171 (ph : Bool) (d : Nat) (L st : List zV) (M : zM) : zEv ph d 176 171 L st M = zcont ph d 176 (zstep ph (zEm ph d) 47 174 178 [] L st M) := zEv_step rfl
theorem e176_174 (ph : Bool) (d : Nat) (L st : List zV) (M : zM) : zEv ph d 176 174 L st M = zcont ph d 176 (zstep ph (zEm ph d) 0 175 0 [4] L st M) := zEv_step rfl
theorem e176_175 (ph : Bool) (d : Nat) (L st : List zV) (M : zM) : zEv ph d 176 175 L st M = zcont ph d 176 (zstep ph (zEm ph d) 52 178 179 [] L st M) := zEv_step rfl
theorem e176_178 (ph : Bool) (d : Nat) (L st : List zV) (M : zM) : zEv ph d 176 178 L st M = zcont ph d 176 (zstep ph (zEm ph d) 0 179 0 [1] L st M) := zEv_step rfl
theorem e176_179 (ph : Bool) (d : Nat) (L st : List zV) (M : zM) : zEv ph d 176 179 L st M = zcont ph d 176 (zstep ph (zEm ph d) 65 182 0 [30, 7] L st M) := zEv_step rfl
theorem e176_182 (ph : Bool) (d : Nat) (L st : List zV) (M : zM) : zEv ph d 176 182 L st M = zcont ph d 176 (zstep ph (zEm ph d) 4 183 0 [0] L st M) := zEv_step rfl
theorem e176_183 (ph : Bool) (d : Nat) (L st : List zV) (M : zM) : zEv ph d 176 183 L st M = zcont ph d 176 (zstep ph (zEm ph d) 2 184 0 [1] L st M) := zEv_step rfl
theorem e176_184 (ph : Bool) (d : Nat) (L st : List zV) (M : zM) : zEv ph d 176 184 L st M = zcont ph d 176 (zstep ph (zEm ph d) 65 187 0 [30, 9] L st M) := zEv_step rfl
theorem e176_187 (ph : Bool) (d : Nat) (L st : List zV) (M : zM) : zEv ph d 176 187 L st M = zcont ph d 176 (zstep ph (zEm ph d) 4 188 0 [0] L st M) := zEv_step rfl
theorem e176_188 (ph : Bool) (d : Nat) (L st : List zV) (M : zM) : zEv ph d 176 188 L st M = zcont ph d 176 (zstep ph (zEm ph d) 36 189 0 [] L st M) := zEv_step rfl
theorem e176_189 (ph : Bool) (d : Nat) (L st : List zV) (M : zM) : zEv ph d 176 189 L st M = zcont ph d 176 (zstep ph (zEm ph d) 60 192 0 [30, 5] L st M) := zEv_step rfl
theorem e176_192 (ph : Bool) (d : Nat) (L st : List zV) (M : zM) : zEv ph d 176 192 L st M = zcont ph d 176 (zstep ph (zEm ph d) 0 193 0 [1] L st M) := zEv_step rfl
theorem e176_193 (ph : Bool) (d : Nat) (L st : List zV) (M : zM) : zEv ph d 176 193 L st M = zcont ph d 176 (zstep ph (zEm ph d) 10 194 0 [] L st M) := zEv_step rfl
theorem e176_194 (ph : Bool) (d : Nat) (L st : List zV) (M : zM) : zEv ph d 176 194 L st M = zcont ph d 176 (zstep ph (zEm ph d) 65 197 0 [30, 5] L st M) := zEv_step rfl
theorem e176_197 (ph : Bool) (d : Nat) (L st : List zV) (M : zM) : zEv ph d 176 197 L st M = zcont ph d 176 (zstep ph (zEm ph d) 83 198 0 [] L st M) := zEv_step rfl
theorem e176_198 (ph : Bool) (d : Nat) (L st : List zV) (M : zM) : zEv ph d 176 198 L st M = zcont ph d 176 (zstep ph (zEm ph d) 2 199 0 [1] L st M) := zEv_step rfl
theorem e176_199 (ph : Bool) (d : Nat) (L st : List zV) (M : zM) : zEv ph d 176 199 L st M = zcont ph d 176 (zstep ph (zEm ph d) 70 202 175 [1, 1, -1] L st M) := zEv_step rfl
theorem e176_202 (ph : Bool) (d : Nat) (L st : List zV) (M : zM) : zEv ph d 176 202 L st M = zcont ph d 176 (zstep ph (zEm ph d) 5 203 0 [2] L st M) := zEv_step rfl
theorem e176_203 (ph : Bool) (d : Nat) (L st : List zV) (M : zM) : zEv ph d 176 203 L st M = zcont ph d 176 (zstep ph (zEm ph d) 0 204 0 [1] L st M) := zEv_step rfl
theorem e176_204 (ph : Bool) (d : Nat) (L st : List zV) (M : zM) : zEv ph d 176 204 L st M = zcont ph d 176 (zstep ph (zEm ph d) 5 205 0 [3] L st M) := zEv_step rfl
theorem e176_205 (ph : Bool) (d : Nat) (L st : List zV) (M : zM) : zEv ph d 176 205 L st M = zcont ph d 176 (zstep ph (zEm ph d) 4 206 0 [0] L st M) := zEv_step rfl
theorem e176_206 (ph : Bool) (d : Nat) (L st : List zV) (M : zM) : zEv ph d 176 206 L st M = zcont ph d 176 (zstep ph (zEm ph d) 1 207 0 [0] L st M) := zEv_step rfl
theorem e176_207 (ph : Bool) (d : Nat) (L st : List zV) (M : zM) : zEv ph d 176 207 L st M = zcont ph d 176 (zstep ph (zEm ph d) 66 210 0 [30, 12] L st M) := zEv_step rfl
theorem e176_210 (ph : Bool) (d : Nat) (L st : List zV) (M : zM) : zEv ph d 176 210 L st M = zcont ph d 176 (zstep ph (zEm ph d) 4 211 0 [0] L st M) := zEv_step rfl
theorem e176_211 (ph : Bool) (d : Nat) (L st : List zV) (M : zM) : zEv ph d 176 211 L st M = zcont ph d 176 (zstep ph (zEm ph d) 0 212 0 [0] L st M) := zEv_step rfl
theorem e176_212 (ph : Bool) (d : Nat) (L st : List zV) (M : zM) : zEv ph d 176 212 L st M = zcont ph d 176 (zstep ph (zEm ph d) 65 215 0 [30, 8] L st M) := zEv_step rfl
theorem e176_215 (ph : Bool) (d : Nat) (L st : List zV) (M : zM) : zEv ph d 176 215 L st M = zcont ph d 176 (zstep ph (zEm ph d) 4 216 0 [0] L st M) := zEv_step rfl
theorem e176_216 (ph : Bool) (d : Nat) (L st : List zV) (M : zM) : zEv ph d 176 216 L st M = zcont ph d 176 (zstep ph (zEm ph d) 4 217 0 [0] L st M) := zEv_step rfl
theorem e176_217 (ph : Bool) (d : Nat) (L st : List zV) (M : zM) : zEv ph d 176 217 L st M = zcont ph d 176 (zstep ph (zEm ph d) 60 220 0 [30, 5] L st M) := zEv_step rfl
theorem e176_220 (ph : Bool) (d : Nat) (L st : List zV) (M : zM) : zEv ph d 176 220 L st M = zcont ph d 176 (zstep ph (zEm ph d) 70 223 173 [2, 1, 30] L st M) := zEv_step rfl
theorem e176_223 (ph : Bool) (d : Nat) (L st : List zV) (M : zM) : zEv ph d 176 223 L st M = zcont ph d 176 (zstep ph (zEm ph d) 70 226 175 [1, 1, -1] L st M) := zEv_step rfl
theorem e176_226 (ph : Bool) (d : Nat) (L st : List zV) (M : zM) : zEv ph d 176 226 L st M = zcont ph d 176 (zstep ph (zEm ph d) 41 229 243 [] L st M) := zEv_step rfl
theorem e176_229 (ph : Bool) (d : Nat) (L st : List zV) (M : zM) : zEv ph d 176 229 L st M = zcont ph d 176 (zstep ph (zEm ph d) 4 230 0 [0] L st M) := zEv_step rfl
theorem e176_230 (ph : Bool) (d : Nat) (L st : List zV) (M : zM) : zEv ph d 176 230 L st M = zcont ph d 176 (zstep ph (zEm ph d) 4 231 0 [0] L st M) := zEv_step rfl
theorem e176_231 (ph : Bool) (d : Nat) (L st : List zV) (M : zM) : zEv ph d 176 231 L st M = zcont ph d 176 (zstep ph (zEm ph d) 60 234 0 [30, 5] L st M) := zEv_step rfl
theorem e176_234 (ph : Bool) (d : Nat) (L st : List zV) (M : zM) : zEv ph d 176 234 L st M = zcont ph d 176 (zstep ph (zEm ph d) 70 237 173 [2, 1, 30] L st M) := zEv_step rfl
theorem e176_237 (ph : Bool) (d : Nat) (L st : List zV) (M : zM) : zEv ph d 176 237 L st M = zcont ph d 176 (zstep ph (zEm ph d) 70 240 174 [1, 1, -1] L st M) := zEv_step rfl
theorem e176_240 (ph : Bool) (d : Nat) (L st : List zV) (M : zM) : zEv ph d 176 240 L st M = zcont ph d 176 (zstep ph (zEm ph d) 40 243 350 [] L st M) := zEv_step rfl
theorem e176_243 (ph : Bool) (d : Nat) (L st : List zV) (M : zM) : zEv ph d 176 243 L st M = zcont ph d 176 (zstep ph (zEm ph d) 4 244 0 [0] L st M) := zEv_step rfl
theorem e176_244 (ph : Bool) (d : Nat) (L st : List zV) (M : zM) : zEv ph d 176 244 L st M = zcont ph d 176 (zstep ph (zEm ph d) 62 247 0 [30, 1, 1, 10, 940] L st M) := zEv_step rfl
theorem e176_247 (ph : Bool) (d : Nat) (L st : List zV) (M : zM) : zEv ph d 176 247 L st M = zcont ph d 176 (zstep ph (zEm ph d) 4 248 0 [0] L st M) := zEv_step rfl
theorem e176_248 (ph : Bool) (d : Nat) (L st : List zV) (M : zM) : zEv ph d 176 248 L st M = zcont ph d 176 (zstep ph (zEm ph d) 60 251 0 [30, 5] L st M) := zEv_step rfl
theorem e176_251 (ph : Bool) (d : Nat) (L st : List zV) (M : zM) : zEv ph d 176 251 L st M = zcont ph d 176 (zstep ph (zEm ph d) 85 252 0 [] L st M) := zEv_step rfl
theorem e176_252 (ph : Bool) (d : Nat) (L st : List zV) (M : zM) : zEv ph d 176 252 L st M = zcont ph d 176 (zstep ph (zEm ph d) 5 254 0 [4] L st M) := zEv_step rfl
theorem e176_254 (ph : Bool) (d : Nat) (L st : List zV) (M : zM) : zEv ph d 176 254 L st M = zcont ph d 176 (zstep ph (zEm ph d) 2 255 0 [3] L st M) := zEv_step rfl
theorem e176_255 (ph : Bool) (d : Nat) (L st : List zV) (M : zM) : zEv ph d 176 255 L st M = zcont ph d 176 (zstep ph (zEm ph d) 40 258 271 [] L st M) := zEv_step rfl
theorem e176_258 (ph : Bool) (d : Nat) (L st : List zV) (M : zM) : zEv ph d 176 258 L st M = zcont ph d 176 (zstep ph (zEm ph d) 2 260 0 [4] L st M) := zEv_step rfl
theorem e176_260 (ph : Bool) (d : Nat) (L st : List zV) (M : zM) : zEv ph d 176 260 L st M = zcont ph d 176 (zstep ph (zEm ph d) 70 263 175 [1, 1, -1] L st M) := zEv_step rfl
theorem e176_263 (ph : Bool) (d : Nat) (L st : List zV) (M : zM) : zEv ph d 176 263 L st M = zcont ph d 176 (zstep ph (zEm ph d) 2 264 0 [2] L st M) := zEv_step rfl
theorem e176_264 (ph : Bool) (d : Nat) (L st : List zV) (M : zM) : zEv ph d 176 264 L st M = zcont ph d 176 (zstep ph (zEm ph d) 47 267 271 [] L st M) := zEv_step rfl
theorem e176_267 (ph : Bool) (d : Nat) (L st : List zV) (M : zM) : zEv ph d 176 267 L st M = zcont ph d 176 (zstep ph (zEm ph d) 0 268 0 [1] L st M) := zEv_step rfl
theorem e176_268 (ph : Bool) (d : Nat) (L st : List zV) (M : zM) : zEv ph d 176 268 L st M = zcont ph d 176 (zstep ph (zEm ph d) 52 271 272 [] L st M) := zEv_step rfl
theorem e176_271 (ph : Bool) (d : Nat) (L st : List zV) (M : zM) : zEv ph d 176 271 L st M = zcont ph d 176 (zstep ph (zEm ph d) 0 272 0 [0] L st M) := zEv_step rfl
theorem e176_272 (ph : Bool) (d : Nat) (L st : List zV) (M : zM) : zEv ph d 176 272 L st M = zcont ph d 176 (zstep ph (zEm ph d) 5 273 0 [3] L st M) := zEv_step rfl
theorem e176_273 (ph : Bool) (d : Nat) (L st : List zV) (M : zM) : zEv ph d 176 273 L st M = zcont ph d 176 (zstep ph (zEm ph d) 4 274 0 [0] L st M) := zEv_step rfl
theorem e176_274 (ph : Bool) (d : Nat) (L st : List zV) (M : zM) : zEv ph d 176 274 L st M = zcont ph d 176 (zstep ph (zEm ph d) 60 277 0 [30, 5] L st M) := zEv_step rfl
theorem e176_277 (ph : Bool) (d : Nat) (L st : List zV) (M : zM) : zEv ph d 176 277 L st M = zcont ph d 176 (zstep ph (zEm ph d) 4 278 0 [0] L st M) := zEv_step rfl
theorem e176_278 (ph : Bool) (d : Nat) (L st : List zV) (M : zM) : zEv ph d 176 278 L st M = zcont ph d 176 (zstep ph (zEm ph d) 60 281 0 [30, 6] L st M) := zEv_step rfl
theorem e176_281 (ph : Bool) (d : Nat) (L st : List zV) (M : zM) : zEv ph d 176 281 L st M = zcont ph d 176 (zstep ph (zEm ph d) 11 282 0 [] L st M) := zEv_step rfl
theorem e176_282 (ph : Bool) (d : Nat) (L st : List zV) (M : zM) : zEv ph d 176 282 L st M = zcont ph d 176 (zstep ph (zEm ph d) 0 284 0 [8] L st M) := zEv_step rfl
theorem e176_284 (ph : Bool) (d : Nat) (L st : List zV) (M : zM) : zEv ph d 176 284 L st M = zcont ph d 176 (zstep ph (zEm ph d) 49 287 307 [] L st M) := zEv_step rfl
theorem e176_287 (ph : Bool) (d : Nat) (L st : List zV) (M : zM) : zEv ph d 176 287 L st M = zcont ph d 176 (zstep ph (zEm ph d) 4 288 0 [0] L st M) := zEv_step rfl
theorem e176_288 (ph : Bool) (d : Nat) (L st : List zV) (M : zM) : zEv ph d 176 288 L st M = zcont ph d 176 (zstep ph (zEm ph d) 1 291 0 [27] L st M) := zEv_step rfl
theorem e176_291 (ph : Bool) (d : Nat) (L st : List zV) (M : zM) : zEv ph d 176 291 L st M = zcont ph d 176 (zstep ph (zEm ph d) 4 292 0 [0] L st M) := zEv_step rfl
theorem e176_292 (ph : Bool) (d : Nat) (L st : List zV) (M : zM) : zEv ph d 176 292 L st M = zcont ph d 176 (zstep ph (zEm ph d) 61 295 0 [30, 12] L st M) := zEv_step rfl
theorem e176_295 (ph : Bool) (d : Nat) (L st : List zV) (M : zM) : zEv ph d 176 295 L st M = zcont ph d 176 (zstep ph (zEm ph d) 24 296 0 [] L st M) := zEv_step rfl
theorem e176_296 (ph : Bool) (d : Nat) (L st : List zV) (M : zM) : zEv ph d 176 296 L st M = zcont ph d 176 (zstep ph (zEm ph d) 2 298 0 [4] L st M) := zEv_step rfl
theorem e176_298 (ph : Bool) (d : Nat) (L st : List zV) (M : zM) : zEv ph d 176 298 L st M = zcont ph d 176 (zstep ph (zEm ph d) 28 299 0 [] L st M) := zEv_step rfl
theorem e176_299 (ph : Bool) (d : Nat) (L st : List zV) (M : zM) : zEv ph d 176 299 L st M = zcont ph d 176 (zstep ph (zEm ph d) 22 300 0 [] L st M) := zEv_step rfl
theorem e176_300 (ph : Bool) (d : Nat) (L st : List zV) (M : zM) : zEv ph d 176 300 L st M = zcont ph d 176 (zstep ph (zEm ph d) 1 303 0 [96] L st M) := zEv_step rfl
theorem e176_303 (ph : Bool) (d : Nat) (L st : List zV) (M : zM) : zEv ph d 176 303 L st M = zcont ph d 176 (zstep ph (zEm ph d) 23 304 0 [] L st M) := zEv_step rfl
theorem e176_304 (ph : Bool) (d : Nat) (L st : List zV) (M : zM) : zEv ph d 176 304 L st M = zcont ph d 176 (zstep ph (zEm ph d) 66 307 0 [30, 12] L st M) := zEv_step rfl
theorem e176_307 (ph : Bool) (d : Nat) (L st : List zV) (M : zM) : zEv ph d 176 307 L st M = zcont ph d 176 (zstep ph (zEm ph d) 4 308 0 [0] L st M) := zEv_step rfl
theorem e176_308 (ph : Bool) (d : Nat) (L st : List zV) (M : zM) : zEv ph d 176 308 L st M = zcont ph d 176 (zstep ph (zEm ph d) 60 311 0 [30, 5] L st M) := zEv_step rfl
theorem e176_311 (ph : Bool) (d : Nat) (L st : List zV) (M : zM) : zEv ph d 176 311 L st M = zcont ph d 176 (zstep ph (zEm ph d) 4 312 0 [0] L st M) := zEv_step rfl
theorem e176_312 (ph : Bool) (d : Nat) (L st : List zV) (M : zM) : zEv ph d 176 312 L st M = zcont ph d 176 (zstep ph (zEm ph d) 60 315 0 [30, 6] L st M) := zEv_step rfl
theorem e176_315 (ph : Bool) (d : Nat) (L st : List zV) (M : zM) : zEv ph d 176 315 L st M = zcont ph d 176 (zstep ph (zEm ph d) 11 316 0 [] L st M) := zEv_step rfl
theorem e176_316 (ph : Bool) (d : Nat) (L st : List zV) (M : zM) : zEv ph d 176 316 L st M = zcont ph d 176 (zstep ph (zEm ph d) 0 317 0 [3] L st M) := zEv_step rfl
theorem e176_317 (ph : Bool) (d : Nat) (L st : List zV) (M : zM) : zEv ph d 176 317 L st M = zcont ph d 176 (zstep ph (zEm ph d) 49 320 337 [] L st M) := zEv_step rfl
theorem e176_320 (ph : Bool) (d : Nat) (L st : List zV) (M : zM) : zEv ph d 176 320 L st M = zcont ph d 176 (zstep ph (zEm ph d) 4 321 0 [0] L st M) := zEv_step rfl
theorem e176_321 (ph : Bool) (d : Nat) (L st : List zV) (M : zM) : zEv ph d 176 321 L st M = zcont ph d 176 (zstep ph (zEm ph d) 0 323 0 [10] L st M) := zEv_step rfl
theorem e176_323 (ph : Bool) (d : Nat) (L st : List zV) (M : zM) : zEv ph d 176 323 L st M = zcont ph d 176 (zstep ph (zEm ph d) 4 324 0 [0] L st M) := zEv_step rfl
theorem e176_324 (ph : Bool) (d : Nat) (L st : List zV) (M : zM) : zEv ph d 176 324 L st M = zcont ph d 176 (zstep ph (zEm ph d) 60 327 0 [30, 8] L st M) := zEv_step rfl
theorem e176_327 (ph : Bool) (d : Nat) (L st : List zV) (M : zM) : zEv ph d 176 327 L st M = zcont ph d 176 (zstep ph (zEm ph d) 12 328 0 [] L st M) := zEv_step rfl
theorem e176_328 (ph : Bool) (d : Nat) (L st : List zV) (M : zM) : zEv ph d 176 328 L st M = zcont ph d 176 (zstep ph (zEm ph d) 2 330 0 [4] L st M) := zEv_step rfl
theorem e176_330 (ph : Bool) (d : Nat) (L st : List zV) (M : zM) : zEv ph d 176 330 L st M = zcont ph d 176 (zstep ph (zEm ph d) 10 331 0 [] L st M) := zEv_step rfl
theorem e176_331 (ph : Bool) (d : Nat) (L st : List zV) (M : zM) : zEv ph d 176 331 L st M = zcont ph d 176 (zstep ph (zEm ph d) 0 333 0 [48] L st M) := zEv_step rfl
theorem e176_333 (ph : Bool) (d : Nat) (L st : List zV) (M : zM) : zEv ph d 176 333 L st M = zcont ph d 176 (zstep ph (zEm ph d) 11 334 0 [] L st M) := zEv_step rfl
theorem e176_334 (ph : Bool) (d : Nat) (L st : List zV) (M : zM) : zEv ph d 176 334 L st M = zcont ph d 176 (zstep ph (zEm ph d) 65 337 0 [30, 8] L st M) := zEv_step rfl
theorem e176_337 (ph : Bool) (d : Nat) (L st : List zV) (M : zM) : zEv ph d 176 337 L st M = zcont ph d 176 (zstep ph (zEm ph d) 4 338 0 [0] L st M) := zEv_step rfl
theorem e176_338 (ph : Bool) (d : Nat) (L st : List zV) (M : zM) : zEv ph d 176 338 L st M = zcont ph d 176 (zstep ph (zEm ph d) 36 339 0 [] L st M) := zEv_step rfl
theorem e176_339 (ph : Bool) (d : Nat) (L st : List zV) (M : zM) : zEv ph d 176 339 L st M = zcont ph d 176 (zstep ph (zEm ph d) 60 342 0 [30, 5] L st M) := zEv_step rfl
theorem e176_342 (ph : Bool) (d : Nat) (L st : List zV) (M : zM) : zEv ph d 176 342 L st M = zcont ph d 176 (zstep ph (zEm ph d) 0 343 0 [1] L st M) := zEv_step rfl
theorem e176_343 (ph : Bool) (d : Nat) (L st : List zV) (M : zM) : zEv ph d 176 343 L st M = zcont ph d 176 (zstep ph (zEm ph d) 10 344 0 [] L st M) := zEv_step rfl
theorem e176_344 (ph : Bool) (d : Nat) (L st : List zV) (M : zM) : zEv ph d 176 344 L st M = zcont ph d 176 (zstep ph (zEm ph d) 65 347 0 [30, 5] L st M) := zEv_step rfl
theorem e176_347 (ph : Bool) (d : Nat) (L st : List zV) (M : zM) : zEv ph d 176 347 L st M = zcont ph d 176 (zstep ph (zEm ph d) 52 350 215 [] L st M) := zEv_step rfl
theorem e176_350 (ph : Bool) (d : Nat) (L st : List zV) (M : zM) : zEv ph d 176 350 L st M = zcont ph d 176 (zstep ph (zEm ph d) 4 351 0 [0] L st M) := zEv_step rfl
theorem e176_351 (ph : Bool) (d : Nat) (L st : List zV) (M : zM) : zEv ph d 176 351 L st M = zcont ph d 176 (zstep ph (zEm ph d) 2 352 0 [3] L st M) := zEv_step rfl
theorem e176_352 (ph : Bool) (d : Nat) (L st : List zV) (M : zM) : zEv ph d 176 352 L st M = zcont ph d 176 (zstep ph (zEm ph d) 40 355 377 [] L st M) := zEv_step rfl
theorem e176_355 (ph : Bool) (d : Nat) (L st : List zV) (M : zM) : zEv ph d 176 355 L st M = zcont ph d 176 (zstep ph (zEm ph d) 4 356 0 [0] L st M) := zEv_step rfl
theorem e176_356 (ph : Bool) (d : Nat) (L st : List zV) (M : zM) : zEv ph d 176 356 L st M = zcont ph d 176 (zstep ph (zEm ph d) 60 359 0 [30, 5] L st M) := zEv_step rfl
theorem e176_359 (ph : Bool) (d : Nat) (L st : List zV) (M : zM) : zEv ph d 176 359 L st M = zcont ph d 176 (zstep ph (zEm ph d) 4 360 0 [0] L st M) := zEv_step rfl
theorem e176_360 (ph : Bool) (d : Nat) (L st : List zV) (M : zM) : zEv ph d 176 360 L st M = zcont ph d 176 (zstep ph (zEm ph d) 60 363 0 [30, 6] L st M) := zEv_step rfl
theorem e176_363 (ph : Bool) (d : Nat) (L st : List zV) (M : zM) : zEv ph d 176 363 L st M = zcont ph d 176 (zstep ph (zEm ph d) 11 364 0 [] L st M) := zEv_step rfl
theorem e176_364 (ph : Bool) (d : Nat) (L st : List zV) (M : zM) : zEv ph d 176 364 L st M = zcont ph d 176 (zstep ph (zEm ph d) 2 365 0 [2] L st M) := zEv_step rfl
theorem e176_365 (ph : Bool) (d : Nat) (L st : List zV) (M : zM) : zEv ph d 176 365 L st M = zcont ph d 176 (zstep ph (zEm ph d) 40 368 373 [] L st M) := zEv_step rfl
theorem e176_368 (ph : Bool) (d : Nat) (L st : List zV) (M : zM) : zEv ph d 176 368 L st M = zcont ph d 176 (zstep ph (zEm ph d) 0 370 0 [8] L st M) := zEv_step rfl
theorem e176_370 (ph : Bool) (d : Nat) (L st : List zV) (M : zM) : zEv ph d 176 370 L st M = zcont ph d 176 (zstep ph (zEm ph d) 52 373 374 [] L st M) := zEv_step rfl
theorem e176_373 (ph : Bool) (d : Nat) (L st : List zV) (M : zM) : zEv ph d 176 373 L st M = zcont ph d 176 (zstep ph (zEm ph d) 0 374 0 [3] L st M) := zEv_step rfl
theorem e176_374 (ph : Bool) (d : Nat) (L st : List zV) (M : zM) : zEv ph d 176 374 L st M = zcont ph d 176 (zstep ph (zEm ph d) 51 377 381 [] L st M) := zEv_step rfl
theorem e176_377 (ph : Bool) (d : Nat) (L st : List zV) (M : zM) : zEv ph d 176 377 L st M = zcont ph d 176 (zstep ph (zEm ph d) 0 378 0 [1] L st M) := zEv_step rfl
theorem e176_378 (ph : Bool) (d : Nat) (L st : List zV) (M : zM) : zEv ph d 176 378 L st M = zcont ph d 176 (zstep ph (zEm ph d) 52 381 390 [] L st M) := zEv_step rfl
theorem e176_381 (ph : Bool) (d : Nat) (L st : List zV) (M : zM) : zEv ph d 176 381 L st M = zcont ph d 176 (zstep ph (zEm ph d) 2 382 0 [2] L st M) := zEv_step rfl
theorem e176_382 (ph : Bool) (d : Nat) (L st : List zV) (M : zM) : zEv ph d 176 382 L st M = zcont ph d 176 (zstep ph (zEm ph d) 40 385 389 [] L st M) := zEv_step rfl
theorem e176_385 (ph : Bool) (d : Nat) (L st : List zV) (M : zM) : zEv ph d 176 385 L st M = zcont ph d 176 (zstep ph (zEm ph d) 0 386 0 [2] L st M) := zEv_step rfl
theorem e176_386 (ph : Bool) (d : Nat) (L st : List zV) (M : zM) : zEv ph d 176 386 L st M = zcont ph d 176 (zstep ph (zEm ph d) 52 389 390 [] L st M) := zEv_step rfl
theorem e176_389 (ph : Bool) (d : Nat) (L st : List zV) (M : zM) : zEv ph d 176 389 L st M = zcont ph d 176 (zstep ph (zEm ph d) 0 390 0 [3] L st M) := zEv_step rfl
theorem e176_390 (ph : Bool) (d : Nat) (L st : List zV) (M : zM) : zEv ph d 176 390 L st M = zcont ph d 176 (zstep ph (zEm ph d) 65 393 0 [30, 7] L st M) := zEv_step rfl
theorem e176_393 (ph : Bool) (d : Nat) (L st : List zV) (M : zM) : zEv ph d 176 393 L st M = zcont ph d 176 (zstep ph (zEm ph d) 83 394 0 [] L st M) := zEv_step rfl
theorem s_isLetter (ph : Bool) (d : Nat) (c y : Int) (M : zM) : zEm ph (d + 1) 143 [(0, c, y)] M = some ((0, if 97 ≤ c ∧ c ≤ 122 then 1 else 0, 0), M) := by
  by_cases c1 : 97 ≤ c
  · by_cases c2 : c ≤ 122
    · rw [if_pos ⟨c1, c2⟩]
      simp (disch := first | assumption | exact zrm0 | exact zrm1 _ | exact zrm2 _ _ | exact zrm3 _ _ _ | exact zrm4 _ _ _ _ | omega) only [m143, ↓k_dp, ↓k_dn, k_dp, k_dn, k_dT, k_dF, k_ip, k_in, if_true, if_false, ne_eq, not_true_eq_false, not_false_eq_true, Int.reduceAdd, zup_a, zup_e, zup_j, z32_id, k_il0, k_ic, k_iclt, k_icgt, k_goto, k_rz, e143_0, e143_1, e143_3, e143_6, e143_7, e143_9, e143_12, e143_13, e143_16, e143_17]
    · rw [if_neg (fun h => c2 h.2)]
      simp (disch := first | assumption | exact zrm0 | exact zrm1 _ | exact zrm2 _ _ | exact zrm3 _ _ _ | exact zrm4 _ _ _ _ | omega) only [m143, ↓k_dp, ↓k_dn, k_dp, k_dn, k_dT, k_dF, k_ip, k_in, if_true, if_false, ne_eq, not_true_eq_false, not_false_eq_true, Int.reduceAdd, zup_a, zup_e, zup_j, z32_id, k_il0, k_ic, k_iclt, k_icgt, k_goto, k_rz, e143_0, e143_1, e143_3, e143_6, e143_7, e143_9, e143_12, e143_13, e143_16, e143_17]
  · rw [if_neg (fun h => c1 h.1)]
    simp (disch := first | assumption | exact zrm0 | exact zrm1 _ | exact zrm2 _ _ | exact zrm3 _ _ _ | exact zrm4 _ _ _ _ | omega) only [m143, ↓k_dp, ↓k_dn, k_dp, k_dn, k_dT, k_dF, k_ip, k_in, if_true, if_false, ne_eq, not_true_eq_false, not_false_eq_true, Int.reduceAdd, zup_a, zup_e, zup_j, z32_id, k_il0, k_ic, k_iclt, k_icgt, k_goto, k_rz, e143_0, e143_1, e143_3, e143_6, e143_7, e143_9, e143_12, e143_13, e143_16, e143_17]
theorem s_isDigit (ph : Bool) (d : Nat) (c y : Int) (M : zM) : zEm ph (d + 1) 144 [(0, c, y)] M = some ((0, if 48 ≤ c ∧ c ≤ 57 then 1 else 0, 0), M) := by
  by_cases c1 : 48 ≤ c
  · by_cases c2 : c ≤ 57
    · rw [if_pos ⟨c1, c2⟩]
      simp (disch := first | assumption | exact zrm0 | exact zrm1 _ | exact zrm2 _ _ | exact zrm3 _ _ _ | exact zrm4 _ _ _ _ | omega) only [m144, ↓k_dp, ↓k_dn, k_dp, k_dn, k_dT, k_dF, k_ip, k_in, if_true, if_false, ne_eq, not_true_eq_false, not_false_eq_true, Int.reduceAdd, zup_a, zup_e, zup_j, z32_id, k_il0, k_ic, k_iclt, k_icgt, k_goto, k_rz, e144_0, e144_1, e144_3, e144_6, e144_7, e144_9, e144_12, e144_13, e144_16, e144_17]
    · rw [if_neg (fun h => c2 h.2)]
      simp (disch := first | assumption | exact zrm0 | exact zrm1 _ | exact zrm2 _ _ | exact zrm3 _ _ _ | exact zrm4 _ _ _ _ | omega) only [m144, ↓k_dp, ↓k_dn, k_dp, k_dn, k_dT, k_dF, k_ip, k_in, if_true, if_false, ne_eq, not_true_eq_false, not_false_eq_true, Int.reduceAdd, zup_a, zup_e, zup_j, z32_id, k_il0, k_ic, k_iclt, k_icgt, k_goto, k_rz, e144_0, e144_1, e144_3, e144_6, e144_7, e144_9, e144_12, e144_13, e144_16, e144_17]
  · rw [if_neg (fun h => c1 h.1)]
    simp (disch := first | assumption | exact zrm0 | exact zrm1 _ | exact zrm2 _ _ | exact zrm3 _ _ _ | exact zrm4 _ _ _ _ | omega) only [m144, ↓k_dp, ↓k_dn, k_dp, k_dn, k_dT, k_dF, k_ip, k_in, if_true, if_false, ne_eq, not_true_eq_false, not_false_eq_true, Int.reduceAdd, zup_a, zup_e, zup_j, z32_id, k_il0, k_ic, k_iclt, k_icgt, k_goto, k_rz, e144_0, e144_1, e144_3, e144_6, e144_7, e144_9, e144_12, e144_13, e144_16, e144_17]
theorem r_isLetter (ph : Bool) (d : Nat) (c y : Int) (M : zM) : zEm ph (d + 1) 175 [(0, c, y)] M = some ((0, if 97 ≤ c ∧ c ≤ 122 then 1 else 0, 0), M) := by
  by_cases c1 : 97 ≤ c
  · by_cases c2 : c ≤ 122
    · rw [if_pos ⟨c1, c2⟩]
      simp (disch := first | assumption | exact zrm0 | exact zrm1 _ | exact zrm2 _ _ | exact zrm3 _ _ _ | exact zrm4 _ _ _ _ | omega) only [m175, ↓k_dp, ↓k_dn, k_dp, k_dn, k_dT, k_dF, k_ip, k_in, if_true, if_false, ne_eq, not_true_eq_false, not_false_eq_true, Int.reduceAdd, zup_a, zup_e, zup_j, z32_id, k_il0, k_ic, k_iclt, k_icgt, k_goto, k_rz, e175_0, e175_1, e175_3, e175_6, e175_7, e175_9, e175_12, e175_13, e175_16, e175_17]
    · rw [if_neg (fun h => c2 h.2)]
      simp (disch := first | assumption | exact zrm0 | exact zrm1 _ | exact zrm2 _ _ | exact zrm3 _ _ _ | exact zrm4 _ _ _ _ | omega) only [m175, ↓k_dp, ↓k_dn, k_dp, k_dn, k_dT, k_dF, k_ip, k_in, if_true, if_false, ne_eq, not_true_eq_false, not_false_eq_true, Int.reduceAdd, zup_a, zup_e, zup_j, z32_id, k_il0, k_ic, k_iclt, k_icgt, k_goto, k_rz, e175_0, e175_1, e175_3, e175_6, e175_7, e175_9, e175_12, e175_13, e175_16, e175_17]
  · rw [if_neg (fun h => c1 h.1)]
    simp (disch := first | assumption | exact zrm0 | exact zrm1 _ | exact zrm2 _ _ | exact zrm3 _ _ _ | exact zrm4 _ _ _ _ | omega) only [m175, ↓k_dp, ↓k_dn, k_dp, k_dn, k_dT, k_dF, k_ip, k_in, if_true, if_false, ne_eq, not_true_eq_false, not_false_eq_true, Int.reduceAdd, zup_a, zup_e, zup_j, z32_id, k_il0, k_ic, k_iclt, k_icgt, k_goto, k_rz, e175_0, e175_1, e175_3, e175_6, e175_7, e175_9, e175_12, e175_13, e175_16, e175_17]
theorem r_isDigit (ph : Bool) (d : Nat) (c y : Int) (M : zM) : zEm ph (d + 1) 174 [(0, c, y)] M = some ((0, if 48 ≤ c ∧ c ≤ 57 then 1 else 0, 0), M) := by
  by_cases c1 : 48 ≤ c
  · by_cases c2 : c ≤ 57
    · rw [if_pos ⟨c1, c2⟩]
      simp (disch := first | assumption | exact zrm0 | exact zrm1 _ | exact zrm2 _ _ | exact zrm3 _ _ _ | exact zrm4 _ _ _ _ | omega) only [m174, ↓k_dp, ↓k_dn, k_dp, k_dn, k_dT, k_dF, k_ip, k_in, if_true, if_false, ne_eq, not_true_eq_false, not_false_eq_true, Int.reduceAdd, zup_a, zup_e, zup_j, z32_id, k_il0, k_ic, k_iclt, k_icgt, k_goto, k_rz, e174_0, e174_1, e174_3, e174_6, e174_7, e174_9, e174_12, e174_13, e174_16, e174_17]
    · rw [if_neg (fun h => c2 h.2)]
      simp (disch := first | assumption | exact zrm0 | exact zrm1 _ | exact zrm2 _ _ | exact zrm3 _ _ _ | exact zrm4 _ _ _ _ | omega) only [m174, ↓k_dp, ↓k_dn, k_dp, k_dn, k_dT, k_dF, k_ip, k_in, if_true, if_false, ne_eq, not_true_eq_false, not_false_eq_true, Int.reduceAdd, zup_a, zup_e, zup_j, z32_id, k_il0, k_ic, k_iclt, k_icgt, k_goto, k_rz, e174_0, e174_1, e174_3, e174_6, e174_7, e174_9, e174_12, e174_13, e174_16, e174_17]
  · rw [if_neg (fun h => c1 h.1)]
    simp (disch := first | assumption | exact zrm0 | exact zrm1 _ | exact zrm2 _ _ | exact zrm3 _ _ _ | exact zrm4 _ _ _ _ | omega) only [m174, ↓k_dp, ↓k_dn, k_dp, k_dn, k_dT, k_dF, k_ip, k_in, if_true, if_false, ne_eq, not_true_eq_false, not_false_eq_true, Int.reduceAdd, zup_a, zup_e, zup_j, z32_id, k_il0, k_ic, k_iclt, k_icgt, k_goto, k_rz, e174_0, e174_1, e174_3, e174_6, e174_7, e174_9, e174_12, e174_13, e174_16, e174_17]
theorem r_tapeAt (d : Nat) (z0 i y : Int) (M : zM) (i0 : 0 ≤ i) (s : M 197 3 ≤ 940) : zEm true (d + 1) 173 [(30, 197, z0), (0, i, y)] M = some ((0, if i < M 197 3 then M 198 i else 0, 0), M) := by
  by_cases c : i < M 197 3
  · rw [if_pos c]
    simp (disch := first | assumption | exact zrm0 | exact zrm1 _ | exact zrm2 _ _ | exact zrm3 _ _ _ | exact zrm4 _ _ _ _ | omega) only [m173, ↓k_dp, ↓k_dn, k_dp, k_dn, k_dT, k_dF, k_ip, k_in, if_true, if_false, ne_eq, not_true_eq_false, not_false_eq_true, Int.reduceAdd, zup_a, zup_e, zup_j, z32_id, k_il1, k_al0, k_gI, k_icge, k_gR, k_ild, k_ildS, k_ildW, k_goto, k_ic, k_ri, e173_0, e173_1, e173_2, e173_5, e173_8, e173_9, e173_12, e173_13, e173_14, e173_17, e173_18]
  · rw [if_neg c]
    simp (disch := first | assumption | exact zrm0 | exact zrm1 _ | exact zrm2 _ _ | exact zrm3 _ _ _ | exact zrm4 _ _ _ _ | omega) only [m173, ↓k_dp, ↓k_dn, k_dp, k_dn, k_dT, k_dF, k_ip, k_in, if_true, if_false, ne_eq, not_true_eq_false, not_false_eq_true, Int.reduceAdd, zup_a, zup_e, zup_j, z32_id, k_il1, k_al0, k_gI, k_icge, k_gR, k_ild, k_ildS, k_ildW, k_goto, k_ic, k_ri, e173_0, e173_1, e173_2, e173_5, e173_8, e173_9, e173_12, e173_13, e173_14, e173_17, e173_18]
theorem s_addLetter (ph : Bool) (d : Nat) (v y c y2 : Int) (M : zM) : zEm ph (d + 1) 160 [(1, v, y), (0, c, y2)] M = some ((1, zlor (zlsl v 5) (z32 (z32 (c - 97) + 1)), 0), M) := by
  simp (disch := first | assumption | exact zrm0 | exact zrm1 _ | exact zrm2 _ _ | exact zrm3 _ _ _ | exact zrm4 _ _ _ _ | omega) only [m160, ↓k_dp, ↓k_dn, k_dp, k_dn, k_dT, k_dF, k_ip, k_in, if_true, if_false, ne_eq, not_true_eq_false, not_false_eq_true, Int.reduceAdd, zup_a, zup_e, zup_j, z32_id, k_ll0, k_ic, k_lshl, k_il2, k_isub, k_iadd, k_i2l, k_lor, k_rl, e160_0, e160_1, e160_2, e160_3, e160_4, e160_6, e160_7, e160_8, e160_9, e160_10, e160_11]
theorem addL {v c : Int} (v0 : 0 ≤ v) (v1 : v < 1099511627776) (c0 : 97 ≤ c) (c1 : c ≤ 122) : zlor (zlsl v 5) (z32 (z32 (c - 97) + 1)) = 32 * v + (c - 96) := by
  rw [z32_id (x := c - 97) (by omega) (by omega), z32_id (by omega) (by omega), show c - 97 + 1 = c - 96 by omega]
  obtain ⟨n, rfl⟩ := Int.eq_ofNat_of_zero_le v0
  obtain ⟨k, hk⟩ := Int.eq_ofNat_of_zero_le (show 0 ≤ c - 96 by omega)
  rw [hk]
  have hk2 : k < 32 := by omega
  unfold zlor zlsl
  rw [zl_int]
  have h1 : (zl (n : Int) <<< ((zb 5).toInt64 &&& 63)).toBitVec = (zl (n : Int)).toBitVec <<< 5 := rfl
  have h2 : (zl (n : Int)).toBitVec.toNat = n := by
    have : (zl (n : Int)).toBitVec = BitVec.ofInt 64 (n : Int) := rfl
    rw [this, BitVec.toNat_ofInt]
    omega
  have h3 : (zl (k : Int)).toBitVec.toNat = k := by
    have : (zl (k : Int)).toBitVec = BitVec.ofInt 64 (k : Int) := rfl
    rw [this, BitVec.toNat_ofInt]
    omega
  generalize zl (n : Int) <<< ((zb 5).toInt64 &&& 63) = X at h1
  have h4 : (X ||| zl (k : Int)).toInt = (X.toBitVec ||| (zl (k : Int)).toBitVec).toInt := rfl
  have h5 : X.toBitVec.toNat = 2 ^ 5 * n := by
    rw [h1, BitVec.toNat_shiftLeft, h2, Nat.shiftLeft_eq]
    omega
  have h6 : (X.toBitVec ||| (zl (k : Int)).toBitVec).toNat = 32 * n + k := by
    rw [BitVec.toNat_or, h5, h3, ← Nat.two_pow_add_eq_or_of_lt (by omega)]
  rw [h4, BitVec.toInt_eq_toNat_of_lt (by omega), h6]
  omega
def RLf (f : Int → Int) (p : Int) : Nat → List Int
  | 0 => []
  | m + 1 => (f (p + m) - 96) :: RLf f p m
def NLf (f : Int → Int) (p : Int) : Nat → Int
  | 0 => 0
  | m + 1 => 10 * NLf f p m + f (p + m) - 48
noncomputable def nLf (f : Int → Int) (p : Int) : Nat → Int
  | 0 => 0
  | m + 1 => nLf f p m + zif (isL (f (p + m))) 1 0
theorem nLf_bd {f : Int → Int} {p : Int} : ∀ m : Nat, 0 ≤ nLf f p m ∧ nLf f p m ≤ m
  | 0 => by unfold nLf; omega
  | m + 1 => by
    have := nLf_bd (f := f) (p := p) m
    unfold nLf
    by_cases c : isL (f (p + m))
    · rw [zif_t c]; omega
    · rw [zif_f c]; omega
theorem nLf_all {f : Int → Int} {p : Int} : ∀ m : Nat, nLf f p m = m → ∀ i : Nat, i < m → isL (f (p + i))
  | 0, _, i, h => by omega
  | m + 1, h, i, hi => by
    have := nLf_bd (f := f) (p := p) m
    unfold nLf at h
    by_cases c : isL (f (p + m))
    · rw [zif_t c] at h
      by_cases ci : i = m
      · rw [ci]; exact c
      · exact nLf_all m (by omega) i (by omega)
    · rw [zif_f c] at h; omega
theorem nLf_none {f : Int → Int} {p : Int} : ∀ m : Nat, nLf f p m = 0 → ∀ i : Nat, i < m → ¬ isL (f (p + i))
  | 0, _, i, h => by omega
  | m + 1, h, i, hi => by
    have := nLf_bd (f := f) (p := p) m
    unfold nLf at h
    by_cases c : isL (f (p + m))
    · rw [zif_t c] at h; omega
    · rw [zif_f c] at h
      by_cases ci : i = m
      · rw [ci]; exact c
      · exact nLf_none m (by omega) i (by omega)
theorem RLf_len {f : Int → Int} {p : Int} : ∀ m : Nat, (RLf f p m).length = m
  | 0 => rfl
  | m + 1 => by unfold RLf; rw [List.length_cons, RLf_len m]
theorem RLf_ok {f : Int → Int} {p : Int} : ∀ m : Nat, m ≤ 8 → nLf f p m = m → okL (RLf f p m)
  | 0, _, _ => ⟨by unfold RLf; simp, fun c h => by cases h⟩
  | m + 1, h8, h => by
    have hb := nLf_bd (f := f) (p := p) m
    have hc := nLf_all (m + 1) h m (by omega)
    have hm : nLf f p m = m := by
      unfold nLf at h
      rw [zif_t hc] at h
      omega
    have ih := RLf_ok m (by omega) hm
    unfold isL at hc
    refine ⟨by rw [RLf_len]; exact h8, fun c hx => ?_⟩
    unfold RLf at hx
    rcases List.mem_cons.mp hx with e | e
    · omega
    · exact ih.2 c e
theorem NLf_bd {f : Int → Int} {p : Int} {m : Nat} (hm : m ≤ 3) (hd : ∀ i : Nat, i < m → isD (f (p + i))) : 0 ≤ NLf f p m ∧ (m ≤ 2 → NLf f p m ≤ 99) ∧ NLf f p m ≤ 999 := by
  unfold isD at hd
  have e0 : ((0 : Nat) : Int) = 0 := rfl
  rcases (show m = 0 ∨ m = 1 ∨ m = 2 ∨ m = 3 by omega) with rfl | rfl | rfl | rfl
  · simp [NLf]
  · have h0 := hd 0 (by omega)
    simp only [NLf, e0, Int.add_zero] at h0 ⊢
    omega
  · have h0 := hd 0 (by omega)
    have h1 := hd 1 (by omega)
    simp only [NLf, e0, Int.add_zero] at h0 ⊢
    have e : ((1 : Nat) : Int) = 1 := rfl
    have e2 : ((0 + 1 : Nat) : Int) = 1 := rfl
    simp only [e, e2] at h1 ⊢
    omega
  · have h0 := hd 0 (by omega)
    have h1 := hd 1 (by omega)
    have h2 := hd 2 (by omega)
    have e : ((1 : Nat) : Int) = 1 := rfl
    have e2 : ((0 + 1 : Nat) : Int) = 1 := rfl
    have e3 : ((2 : Nat) : Int) = 2 := rfl
    have e4 : ((0 + 1 + 1 : Nat) : Int) = 2 := rfl
    have e5 : ((1 + 1 : Nat) : Int) = 2 := rfl
    simp only [NLf, e0, Int.add_zero, e, e2, e3, e4, e5] at h0 h1 h2 ⊢
    omega
theorem V27_w {f : Int → Int} {p : Int} (hb : ∀ i : Nat, 0 ≤ f (p + i) ∧ f (p + i) ≤ 255) : ∀ m : Nat, -(7 * 27 ^ m - 7) ≤ V27 (RLf f p m) ∧ V27 (RLf f p m) ≤ 7 * 27 ^ m - 7
  | 0 => by simp [RLf, V27]
  | m + 1 => by
    have := V27_w hb m
    have h := hb m
    have e : (27 : Int) ^ (m + 1) = 27 * 27 ^ m := by rw [Int.pow_succ, Int.mul_comm]
    rw [e]
    show _ ≤ 27 * V27 (RLf f p m) + (f (p + m) - 96) ∧ 27 * V27 (RLf f p m) + (f (p + m) - 96) ≤ _
    omega
theorem V27_step {f : Int → Int} {p : Int} (hb : ∀ i : Nat, 0 ≤ f (p + i) ∧ f (p + i) ≤ 255) {m : Nat} (hm : m < 8) : z64 (z64 (z64 (27 * V27 (RLf f p m)) + f (p + m)) - 96) = V27 (RLf f p (m + 1)) := by
  have h1 := V27_w hb m
  have h2 := hb m
  have h3 : (27 : Int) ^ m ≤ 27 ^ 7 := by
    rcases (show m = 0 ∨ m = 1 ∨ m = 2 ∨ m = 3 ∨ m = 4 ∨ m = 5 ∨ m = 6 ∨ m = 7 by omega) with rfl | rfl | rfl | rfl | rfl | rfl | rfl | rfl <;> decide
  have h4 : (27 : Int) ^ 7 = 10460353203 := by decide
  rw [z64_id (x := 27 * V27 (RLf f p m)) (by omega) (by omega), z64_id (x := 27 * V27 (RLf f p m) + f (p + m)) (by omega) (by omega), z64_id (by omega) (by omega)]
  show _ = 27 * V27 (RLf f p m) + (f (p + m) - 96)
  omega
