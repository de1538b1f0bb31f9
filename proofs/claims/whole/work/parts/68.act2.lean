/-! a land's bounds; what a state answers over questions; granting, putting, a day -/
def okG (G : zM) : Prop := (0 ≤ G 0 6 ∧ G 0 6 ≤ 5) ∧ (0 ≤ G 0 7 ∧ G 0 7 ≤ 10) ∧ (0 ≤ G 0 8 ∧ G 0 8 ≤ 5) ∧ (0 ≤ G 0 9 ∧ G 0 9 < 1024) ∧ (1 ≤ G 0 10 ∧ G 0 10 ≤ 9) ∧ (0 ≤ G 0 11 ∧ G 0 11 ≤ 9) ∧ (∀ k, 0 ≤ k → k < G 0 7 → 0 ≤ G 4 k ∧ G 4 k < G 0 6) ∧ (∀ k, 0 ≤ k → k < 25 → 0 ≤ G 5 k ∧ G 5 k ≤ 9) ∧ (∀ k, 0 ≤ k → k < 2 → 0 ≤ G 6 k ∧ G 6 k ≤ 99)
theorem okG_M {M : zM} {l : Int} (h : okG (zvG M l)) : (0 ≤ M l 6 ∧ M l 6 ≤ 5) ∧ (0 ≤ M l 7 ∧ M l 7 ≤ 10) ∧ (0 ≤ M l 8 ∧ M l 8 ≤ 5) ∧ (0 ≤ M l 9 ∧ M l 9 < 1024) ∧ (1 ≤ M l 10 ∧ M l 10 ≤ 9) ∧ (0 ≤ M l 11 ∧ M l 11 ≤ 9) ∧ (∀ k, 0 ≤ k → k < M l 7 → 0 ≤ M (l + 4) k ∧ M (l + 4) k < M l 6) ∧ (∀ k, 0 ≤ k → k < 25 → 0 ≤ M (l + 5) k ∧ M (l + 5) k ≤ 9) ∧ (∀ k, 0 ≤ k → k < 2 → 0 ≤ M (l + 6) k ∧ M (l + 6) k ≤ 99) := by
  obtain ⟨h1, h2, h3, h4, h5, h6, h7, h8, h9⟩ := h
  simp (disch := omega) only [zvG_0] at h1 h2 h3 h4 h5 h6 h7
  refine ⟨h1, h2, h3, h4, h5, h6, fun k k0 k1 => ?_, fun k k0 k1 => ?_, fun k k0 k1 => ?_⟩
  · have := h7 k k0 k1
    rwa [zvG_4 k0 (by omega) k1] at this
  · have := h8 k k0 k1
    rwa [zvG_5 k0 k1] at this
  · have := h9 k k0 k1
    rwa [zvG_6 k0 k1] at this
theorem zput_u0 {M T : zM} {a j v : Int} (ha : 0 ≤ a) (h : 8 ≤ j) (h2 : j ≤ 10) : zup (zput M a T) a j v = zput M a (zup T 0 j v) := zput_up0 ha h h2
theorem zput_u1 {M T : zM} {a j v : Int} (ha : 0 ≤ a) (h : 0 ≤ j) (h2 : j < 10) : zup (zput M a T) (a + 1) j v = zput M a (zup T 1 j v) := zput_up ha (by unfold sdom; omega)
theorem zput_u2 {M T : zM} {a j v : Int} (ha : 0 ≤ a) (h : 0 ≤ j) (h2 : j < 10) : zup (zput M a T) (a + 2) j v = zput M a (zup T 2 j v) := zput_up ha (by unfold sdom; omega)
theorem zput_u3 {M T : zM} {a j v : Int} (ha : 0 ≤ a) (h : 0 ≤ j) (h2 : j < 5) : zup (zput M a T) (a + 3) j v = zput M a (zup T 3 j v) := zput_up ha (by unfold sdom; omega)
theorem zput_u4 {M T : zM} {a j v : Int} (ha : 0 ≤ a) (h : 0 ≤ j) (h2 : j < 5) : zup (zput M a T) (a + 4) j v = zput M a (zup T 4 j v) := zput_up ha (by unfold sdom; omega)
theorem zput_u5 {M T : zM} {a j v : Int} (ha : 0 ≤ a) (h : 0 ≤ j) (h2 : j < 5) : zup (zput M a T) (a + 5) j v = zput M a (zup T 5 j v) := zput_up ha (by unfold sdom; omega)
theorem zput_u6 {M T : zM} {a j v : Int} (ha : 0 ≤ a) (h : 0 ≤ j) (h2 : j < 5) : zup (zput M a T) (a + 6) j v = zput M a (zup T 6 j v) := zput_up ha (by unfold sdom; omega)
theorem zput_u7 {M T : zM} {a j v : Int} (ha : 0 ≤ a) (h : 0 ≤ j) (h2 : j < 5) : zup (zput M a T) (a + 7) j v = zput M a (zup T 7 j v) := zput_up ha (by unfold sdom; omega)
theorem zput_u8 {M T : zM} {a j v : Int} (ha : 0 ≤ a) (h : 0 ≤ j) (h2 : j < 2) : zup (zput M a T) (a + 8) j v = zput M a (zup T 8 j v) := zput_up ha (by unfold sdom; omega)
theorem zt_zit {f : Int → zM → zM} (n : Nat) (h : Int) {T : zM} (ht : zt T = T) (hf : ∀ k U, h ≤ k → k < h + n → zt U = U → zt (f k U) = f k U) : zt (zit f n h T) = zit f n h T :=
  zit_inv (fun _ U => zt U = U) n h T ht hf
theorem m120 (ph : Bool) (d : Nat) (a x0 p0 y0 p1 y1 p2 y2 : Int) (M : zM) : zEm ph (d + 1) 120 [(26, a, x0), (28, p0, y0), (0, p1, y1), (0, p2, y2)] M = zEv ph d 120 0 [(26, a, x0), (28, p0, y0), (0, p1, y1), (0, p2, y2)] [] M := rfl
theorem e120_0 (ph : Bool) (d : Nat) (L st : List zV) (M : zM) : zEv ph d 120 0 L st M = zcont ph d 120 (zstep ph (zEm ph d) 4 1 0 [0] L st M) := zEv_step rfl
theorem e120_1 (ph : Bool) (d : Nat) (L st : List zV) (M : zM) : zEv ph d 120 1 L st M = zcont ph d 120 (zstep ph (zEm ph d) 4 2 0 [1] L st M) := zEv_step rfl
theorem e120_2 (ph : Bool) (d : Nat) (L st : List zV) (M : zM) : zEv ph d 120 2 L st M = zcont ph d 120 (zstep ph (zEm ph d) 2 3 0 [2] L st M) := zEv_step rfl
theorem e120_3 (ph : Bool) (d : Nat) (L st : List zV) (M : zM) : zEv ph d 120 3 L st M = zcont ph d 120 (zstep ph (zEm ph d) 0 4 0 [0] L st M) := zEv_step rfl
theorem e120_4 (ph : Bool) (d : Nat) (L st : List zV) (M : zM) : zEv ph d 120 4 L st M = zcont ph d 120 (zstep ph (zEm ph d) 70 7 119 [4, 1, 26] L st M) := zEv_step rfl
theorem e120_7 (ph : Bool) (d : Nat) (L st : List zV) (M : zM) : zEv ph d 120 7 L st M = zcont ph d 120 (zstep ph (zEm ph d) 4 8 0 [0] L st M) := zEv_step rfl
theorem e120_8 (ph : Bool) (d : Nat) (L st : List zV) (M : zM) : zEv ph d 120 8 L st M = zcont ph d 120 (zstep ph (zEm ph d) 4 9 0 [1] L st M) := zEv_step rfl
theorem e120_9 (ph : Bool) (d : Nat) (L st : List zV) (M : zM) : zEv ph d 120 9 L st M = zcont ph d 120 (zstep ph (zEm ph d) 2 10 0 [3] L st M) := zEv_step rfl
theorem e120_10 (ph : Bool) (d : Nat) (L st : List zV) (M : zM) : zEv ph d 120 10 L st M = zcont ph d 120 (zstep ph (zEm ph d) 0 11 0 [1] L st M) := zEv_step rfl
theorem e120_11 (ph : Bool) (d : Nat) (L st : List zV) (M : zM) : zEv ph d 120 11 L st M = zcont ph d 120 (zstep ph (zEm ph d) 70 14 119 [4, 1, 26] L st M) := zEv_step rfl
theorem e120_14 (ph : Bool) (d : Nat) (L st : List zV) (M : zM) : zEv ph d 120 14 L st M = zcont ph d 120 (zstep ph (zEm ph d) 51 17 21 [] L st M) := zEv_step rfl
theorem e120_17 (ph : Bool) (d : Nat) (L st : List zV) (M : zM) : zEv ph d 120 17 L st M = zcont ph d 120 (zstep ph (zEm ph d) 0 18 0 [1] L st M) := zEv_step rfl
theorem e120_18 (ph : Bool) (d : Nat) (L st : List zV) (M : zM) : zEv ph d 120 18 L st M = zcont ph d 120 (zstep ph (zEm ph d) 52 21 22 [] L st M) := zEv_step rfl
theorem e120_21 (ph : Bool) (d : Nat) (L st : List zV) (M : zM) : zEv ph d 120 21 L st M = zcont ph d 120 (zstep ph (zEm ph d) 0 22 0 [0] L st M) := zEv_step rfl
theorem e120_22 (ph : Bool) (d : Nat) (L st : List zV) (M : zM) : zEv ph d 120 22 L st M = zcont ph d 120 (zstep ph (zEm ph d) 80 23 0 [0, 1] L st M) := zEv_step rfl
theorem m121 (ph : Bool) (d : Nat) (a x0 p0 y0 p1 y1 : Int) (M : zM) : zEm ph (d + 1) 121 [(26, a, x0), (28, p0, y0), (0, p1, y1)] M = zEv ph d 121 0 [(26, a, x0), (28, p0, y0), (0, p1, y1)] [] M := rfl
theorem e121_0 (ph : Bool) (d : Nat) (L st : List zV) (M : zM) : zEv ph d 121 0 L st M = zcont ph d 121 (zstep ph (zEm ph d) 4 1 0 [0] L st M) := zEv_step rfl
theorem e121_1 (ph : Bool) (d : Nat) (L st : List zV) (M : zM) : zEv ph d 121 1 L st M = zcont ph d 121 (zstep ph (zEm ph d) 4 2 0 [1] L st M) := zEv_step rfl
theorem e121_2 (ph : Bool) (d : Nat) (L st : List zV) (M : zM) : zEv ph d 121 2 L st M = zcont ph d 121 (zstep ph (zEm ph d) 4 3 0 [0] L st M) := zEv_step rfl
theorem e121_3 (ph : Bool) (d : Nat) (L st : List zV) (M : zM) : zEv ph d 121 3 L st M = zcont ph d 121 (zstep ph (zEm ph d) 62 6 0 [26, 2, 3, 10, 5] L st M) := zEv_step rfl
theorem e121_6 (ph : Bool) (d : Nat) (L st : List zV) (M : zM) : zEv ph d 121 6 L st M = zcont ph d 121 (zstep ph (zEm ph d) 2 7 0 [2] L st M) := zEv_step rfl
theorem e121_7 (ph : Bool) (d : Nat) (L st : List zV) (M : zM) : zEv ph d 121 7 L st M = zcont ph d 121 (zstep ph (zEm ph d) 85 8 0 [] L st M) := zEv_step rfl
theorem e121_8 (ph : Bool) (d : Nat) (L st : List zV) (M : zM) : zEv ph d 121 8 L st M = zcont ph d 121 (zstep ph (zEm ph d) 4 9 0 [0] L st M) := zEv_step rfl
theorem e121_9 (ph : Bool) (d : Nat) (L st : List zV) (M : zM) : zEv ph d 121 9 L st M = zcont ph d 121 (zstep ph (zEm ph d) 62 12 0 [26, 3, 4, 10, 5] L st M) := zEv_step rfl
theorem e121_12 (ph : Bool) (d : Nat) (L st : List zV) (M : zM) : zEv ph d 121 12 L st M = zcont ph d 121 (zstep ph (zEm ph d) 2 13 0 [2] L st M) := zEv_step rfl
theorem e121_13 (ph : Bool) (d : Nat) (L st : List zV) (M : zM) : zEv ph d 121 13 L st M = zcont ph d 121 (zstep ph (zEm ph d) 85 14 0 [] L st M) := zEv_step rfl
theorem e121_14 (ph : Bool) (d : Nat) (L st : List zV) (M : zM) : zEv ph d 121 14 L st M = zcont ph d 121 (zstep ph (zEm ph d) 70 17 120 [4, 1, 26] L st M) := zEv_step rfl
theorem e121_17 (ph : Bool) (d : Nat) (L st : List zV) (M : zM) : zEv ph d 121 17 L st M = zcont ph d 121 (zstep ph (zEm ph d) 80 18 0 [0, 1] L st M) := zEv_step rfl
theorem m122 (ph : Bool) (d : Nat) (a x0 p0 y0 p1 y1 : Int) (M : zM) : zEm ph (d + 1) 122 [(26, a, x0), (28, p0, y0), (0, p1, y1)] M = zEv ph d 122 0 [(26, a, x0), (28, p0, y0), (0, p1, y1), (3, 0, 0), (3, 0, 0)] [] M := rfl
theorem e122_0 (ph : Bool) (d : Nat) (L st : List zV) (M : zM) : zEv ph d 122 0 L st M = zcont ph d 122 (zstep ph (zEm ph d) 0 1 0 [0] L st M) := zEv_step rfl
theorem e122_1 (ph : Bool) (d : Nat) (L st : List zV) (M : zM) : zEv ph d 122 1 L st M = zcont ph d 122 (zstep ph (zEm ph d) 5 2 0 [3] L st M) := zEv_step rfl
theorem e122_2 (ph : Bool) (d : Nat) (L st : List zV) (M : zM) : zEv ph d 122 2 L st M = zcont ph d 122 (zstep ph (zEm ph d) 0 3 0 [0] L st M) := zEv_step rfl
theorem e122_3 (ph : Bool) (d : Nat) (L st : List zV) (M : zM) : zEv ph d 122 3 L st M = zcont ph d 122 (zstep ph (zEm ph d) 5 5 0 [4] L st M) := zEv_step rfl
theorem e122_5 (ph : Bool) (d : Nat) (L st : List zV) (M : zM) : zEv ph d 122 5 L st M = zcont ph d 122 (zstep ph (zEm ph d) 2 7 0 [4] L st M) := zEv_step rfl
theorem e122_7 (ph : Bool) (d : Nat) (L st : List zV) (M : zM) : zEv ph d 122 7 L st M = zcont ph d 122 (zstep ph (zEm ph d) 4 8 0 [1] L st M) := zEv_step rfl
theorem e122_8 (ph : Bool) (d : Nat) (L st : List zV) (M : zM) : zEv ph d 122 8 L st M = zcont ph d 122 (zstep ph (zEm ph d) 60 11 0 [28, 8] L st M) := zEv_step rfl
theorem e122_11 (ph : Bool) (d : Nat) (L st : List zV) (M : zM) : zEv ph d 122 11 L st M = zcont ph d 122 (zstep ph (zEm ph d) 49 14 38 [] L st M) := zEv_step rfl
theorem e122_14 (ph : Bool) (d : Nat) (L st : List zV) (M : zM) : zEv ph d 122 14 L st M = zcont ph d 122 (zstep ph (zEm ph d) 4 15 0 [0] L st M) := zEv_step rfl
theorem e122_15 (ph : Bool) (d : Nat) (L st : List zV) (M : zM) : zEv ph d 122 15 L st M = zcont ph d 122 (zstep ph (zEm ph d) 62 18 0 [26, 4, 5, 10, 5] L st M) := zEv_step rfl
theorem e122_18 (ph : Bool) (d : Nat) (L st : List zV) (M : zM) : zEv ph d 122 18 L st M = zcont ph d 122 (zstep ph (zEm ph d) 2 20 0 [4] L st M) := zEv_step rfl
theorem e122_20 (ph : Bool) (d : Nat) (L st : List zV) (M : zM) : zEv ph d 122 20 L st M = zcont ph d 122 (zstep ph (zEm ph d) 85 21 0 [] L st M) := zEv_step rfl
theorem e122_21 (ph : Bool) (d : Nat) (L st : List zV) (M : zM) : zEv ph d 122 21 L st M = zcont ph d 122 (zstep ph (zEm ph d) 2 22 0 [2] L st M) := zEv_step rfl
theorem e122_22 (ph : Bool) (d : Nat) (L st : List zV) (M : zM) : zEv ph d 122 22 L st M = zcont ph d 122 (zstep ph (zEm ph d) 47 25 32 [] L st M) := zEv_step rfl
theorem e122_25 (ph : Bool) (d : Nat) (L st : List zV) (M : zM) : zEv ph d 122 25 L st M = zcont ph d 122 (zstep ph (zEm ph d) 2 26 0 [3] L st M) := zEv_step rfl
theorem e122_26 (ph : Bool) (d : Nat) (L st : List zV) (M : zM) : zEv ph d 122 26 L st M = zcont ph d 122 (zstep ph (zEm ph d) 0 27 0 [1] L st M) := zEv_step rfl
theorem e122_27 (ph : Bool) (d : Nat) (L st : List zV) (M : zM) : zEv ph d 122 27 L st M = zcont ph d 122 (zstep ph (zEm ph d) 2 29 0 [4] L st M) := zEv_step rfl
theorem e122_29 (ph : Bool) (d : Nat) (L st : List zV) (M : zM) : zEv ph d 122 29 L st M = zcont ph d 122 (zstep ph (zEm ph d) 19 30 0 [] L st M) := zEv_step rfl
theorem e122_30 (ph : Bool) (d : Nat) (L st : List zV) (M : zM) : zEv ph d 122 30 L st M = zcont ph d 122 (zstep ph (zEm ph d) 17 31 0 [] L st M) := zEv_step rfl
theorem e122_31 (ph : Bool) (d : Nat) (L st : List zV) (M : zM) : zEv ph d 122 31 L st M = zcont ph d 122 (zstep ph (zEm ph d) 5 32 0 [3] L st M) := zEv_step rfl
theorem e122_32 (ph : Bool) (d : Nat) (L st : List zV) (M : zM) : zEv ph d 122 32 L st M = zcont ph d 122 (zstep ph (zEm ph d) 8 35 0 [4, 1] L st M) := zEv_step rfl
theorem e122_35 (ph : Bool) (d : Nat) (L st : List zV) (M : zM) : zEv ph d 122 35 L st M = zcont ph d 122 (zstep ph (zEm ph d) 52 38 5 [] L st M) := zEv_step rfl
theorem e122_38 (ph : Bool) (d : Nat) (L st : List zV) (M : zM) : zEv ph d 122 38 L st M = zcont ph d 122 (zstep ph (zEm ph d) 2 39 0 [3] L st M) := zEv_step rfl
theorem e122_39 (ph : Bool) (d : Nat) (L st : List zV) (M : zM) : zEv ph d 122 39 L st M = zcont ph d 122 (zstep ph (zEm ph d) 80 40 0 [] L st M) := zEv_step rfl
theorem m123 (ph : Bool) (d : Nat) (a x0 p0 y0 : Int) (M : zM) : zEm ph (d + 1) 123 [(26, a, x0), (28, p0, y0)] M = zEv ph d 123 0 [(26, a, x0), (28, p0, y0), (3, 0, 0)] [] M := rfl
theorem e123_0 (ph : Bool) (d : Nat) (L st : List zV) (M : zM) : zEv ph d 123 0 L st M = zcont ph d 123 (zstep ph (zEm ph d) 0 1 0 [0] L st M) := zEv_step rfl
theorem e123_1 (ph : Bool) (d : Nat) (L st : List zV) (M : zM) : zEv ph d 123 1 L st M = zcont ph d 123 (zstep ph (zEm ph d) 5 2 0 [2] L st M) := zEv_step rfl
theorem e123_2 (ph : Bool) (d : Nat) (L st : List zV) (M : zM) : zEv ph d 123 2 L st M = zcont ph d 123 (zstep ph (zEm ph d) 2 3 0 [2] L st M) := zEv_step rfl
theorem e123_3 (ph : Bool) (d : Nat) (L st : List zV) (M : zM) : zEv ph d 123 3 L st M = zcont ph d 123 (zstep ph (zEm ph d) 4 4 0 [1] L st M) := zEv_step rfl
theorem e123_4 (ph : Bool) (d : Nat) (L st : List zV) (M : zM) : zEv ph d 123 4 L st M = zcont ph d 123 (zstep ph (zEm ph d) 60 7 0 [28, 8] L st M) := zEv_step rfl
theorem e123_7 (ph : Bool) (d : Nat) (L st : List zV) (M : zM) : zEv ph d 123 7 L st M = zcont ph d 123 (zstep ph (zEm ph d) 49 10 40 [] L st M) := zEv_step rfl
theorem e123_10 (ph : Bool) (d : Nat) (L st : List zV) (M : zM) : zEv ph d 123 10 L st M = zcont ph d 123 (zstep ph (zEm ph d) 4 11 0 [0] L st M) := zEv_step rfl
theorem e123_11 (ph : Bool) (d : Nat) (L st : List zV) (M : zM) : zEv ph d 123 11 L st M = zcont ph d 123 (zstep ph (zEm ph d) 62 14 0 [26, 4, 5, 10, 5] L st M) := zEv_step rfl
theorem e123_14 (ph : Bool) (d : Nat) (L st : List zV) (M : zM) : zEv ph d 123 14 L st M = zcont ph d 123 (zstep ph (zEm ph d) 2 15 0 [2] L st M) := zEv_step rfl
theorem e123_15 (ph : Bool) (d : Nat) (L st : List zV) (M : zM) : zEv ph d 123 15 L st M = zcont ph d 123 (zstep ph (zEm ph d) 85 16 0 [] L st M) := zEv_step rfl
theorem e123_16 (ph : Bool) (d : Nat) (L st : List zV) (M : zM) : zEv ph d 123 16 L st M = zcont ph d 123 (zstep ph (zEm ph d) 40 19 34 [] L st M) := zEv_step rfl
theorem e123_19 (ph : Bool) (d : Nat) (L st : List zV) (M : zM) : zEv ph d 123 19 L st M = zcont ph d 123 (zstep ph (zEm ph d) 4 20 0 [0] L st M) := zEv_step rfl
theorem e123_20 (ph : Bool) (d : Nat) (L st : List zV) (M : zM) : zEv ph d 123 20 L st M = zcont ph d 123 (zstep ph (zEm ph d) 62 23 0 [26, 5, 6, 10, 5] L st M) := zEv_step rfl
theorem e123_23 (ph : Bool) (d : Nat) (L st : List zV) (M : zM) : zEv ph d 123 23 L st M = zcont ph d 123 (zstep ph (zEm ph d) 2 24 0 [2] L st M) := zEv_step rfl
theorem e123_24 (ph : Bool) (d : Nat) (L st : List zV) (M : zM) : zEv ph d 123 24 L st M = zcont ph d 123 (zstep ph (zEm ph d) 85 25 0 [] L st M) := zEv_step rfl
theorem e123_25 (ph : Bool) (d : Nat) (L st : List zV) (M : zM) : zEv ph d 123 25 L st M = zcont ph d 123 (zstep ph (zEm ph d) 4 26 0 [0] L st M) := zEv_step rfl
theorem e123_26 (ph : Bool) (d : Nat) (L st : List zV) (M : zM) : zEv ph d 123 26 L st M = zcont ph d 123 (zstep ph (zEm ph d) 60 29 0 [26, 10] L st M) := zEv_step rfl
theorem e123_29 (ph : Bool) (d : Nat) (L st : List zV) (M : zM) : zEv ph d 123 29 L st M = zcont ph d 123 (zstep ph (zEm ph d) 47 32 34 [] L st M) := zEv_step rfl
theorem e123_32 (ph : Bool) (d : Nat) (L st : List zV) (M : zM) : zEv ph d 123 32 L st M = zcont ph d 123 (zstep ph (zEm ph d) 0 33 0 [1] L st M) := zEv_step rfl
theorem e123_33 (ph : Bool) (d : Nat) (L st : List zV) (M : zM) : zEv ph d 123 33 L st M = zcont ph d 123 (zstep ph (zEm ph d) 80 34 0 [0, 1] L st M) := zEv_step rfl
theorem e123_34 (ph : Bool) (d : Nat) (L st : List zV) (M : zM) : zEv ph d 123 34 L st M = zcont ph d 123 (zstep ph (zEm ph d) 8 37 0 [2, 1] L st M) := zEv_step rfl
theorem e123_37 (ph : Bool) (d : Nat) (L st : List zV) (M : zM) : zEv ph d 123 37 L st M = zcont ph d 123 (zstep ph (zEm ph d) 52 40 2 [] L st M) := zEv_step rfl
theorem e123_40 (ph : Bool) (d : Nat) (L st : List zV) (M : zM) : zEv ph d 123 40 L st M = zcont ph d 123 (zstep ph (zEm ph d) 0 41 0 [0] L st M) := zEv_step rfl
theorem e123_41 (ph : Bool) (d : Nat) (L st : List zV) (M : zM) : zEv ph d 123 41 L st M = zcont ph d 123 (zstep ph (zEm ph d) 80 42 0 [0, 1] L st M) := zEv_step rfl
theorem m157 (ph : Bool) (d : Nat) (a x0 p0 y0 p1 y1 : Int) (M : zM) : zEm ph (d + 1) 157 [(28, a, x0), (0, p0, y0), (0, p1, y1)] M = zEv ph d 157 0 [(28, a, x0), (0, p0, y0), (0, p1, y1), (3, 0, 0)] [] M := rfl
theorem e157_0 (ph : Bool) (d : Nat) (L st : List zV) (M : zM) : zEv ph d 157 0 L st M = zcont ph d 157 (zstep ph (zEm ph d) 2 1 0 [1] L st M) := zEv_step rfl
theorem e157_1 (ph : Bool) (d : Nat) (L st : List zV) (M : zM) : zEv ph d 157 1 L st M = zcont ph d 157 (zstep ph (zEm ph d) 0 2 0 [5] L st M) := zEv_step rfl
theorem e157_2 (ph : Bool) (d : Nat) (L st : List zV) (M : zM) : zEv ph d 157 2 L st M = zcont ph d 157 (zstep ph (zEm ph d) 12 3 0 [] L st M) := zEv_step rfl
theorem e157_3 (ph : Bool) (d : Nat) (L st : List zV) (M : zM) : zEv ph d 157 3 L st M = zcont ph d 157 (zstep ph (zEm ph d) 2 4 0 [2] L st M) := zEv_step rfl
theorem e157_4 (ph : Bool) (d : Nat) (L st : List zV) (M : zM) : zEv ph d 157 4 L st M = zcont ph d 157 (zstep ph (zEm ph d) 10 5 0 [] L st M) := zEv_step rfl
theorem e157_5 (ph : Bool) (d : Nat) (L st : List zV) (M : zM) : zEv ph d 157 5 L st M = zcont ph d 157 (zstep ph (zEm ph d) 5 6 0 [3] L st M) := zEv_step rfl
theorem e157_6 (ph : Bool) (d : Nat) (L st : List zV) (M : zM) : zEv ph d 157 6 L st M = zcont ph d 157 (zstep ph (zEm ph d) 2 7 0 [3] L st M) := zEv_step rfl
theorem e157_7 (ph : Bool) (d : Nat) (L st : List zV) (M : zM) : zEv ph d 157 7 L st M = zcont ph d 157 (zstep ph (zEm ph d) 42 10 28 [] L st M) := zEv_step rfl
theorem e157_10 (ph : Bool) (d : Nat) (L st : List zV) (M : zM) : zEv ph d 157 10 L st M = zcont ph d 157 (zstep ph (zEm ph d) 2 11 0 [3] L st M) := zEv_step rfl
theorem e157_11 (ph : Bool) (d : Nat) (L st : List zV) (M : zM) : zEv ph d 157 11 L st M = zcont ph d 157 (zstep ph (zEm ph d) 4 12 0 [0] L st M) := zEv_step rfl
theorem e157_12 (ph : Bool) (d : Nat) (L st : List zV) (M : zM) : zEv ph d 157 12 L st M = zcont ph d 157 (zstep ph (zEm ph d) 62 15 0 [28, 4, 5, 10, 25] L st M) := zEv_step rfl
theorem e157_15 (ph : Bool) (d : Nat) (L st : List zV) (M : zM) : zEv ph d 157 15 L st M = zcont ph d 157 (zstep ph (zEm ph d) 84 16 0 [] L st M) := zEv_step rfl
theorem e157_16 (ph : Bool) (d : Nat) (L st : List zV) (M : zM) : zEv ph d 157 16 L st M = zcont ph d 157 (zstep ph (zEm ph d) 49 19 28 [] L st M) := zEv_step rfl
theorem e157_19 (ph : Bool) (d : Nat) (L st : List zV) (M : zM) : zEv ph d 157 19 L st M = zcont ph d 157 (zstep ph (zEm ph d) 4 20 0 [0] L st M) := zEv_step rfl
theorem e157_20 (ph : Bool) (d : Nat) (L st : List zV) (M : zM) : zEv ph d 157 20 L st M = zcont ph d 157 (zstep ph (zEm ph d) 62 23 0 [28, 4, 5, 10, 25] L st M) := zEv_step rfl
theorem e157_23 (ph : Bool) (d : Nat) (L st : List zV) (M : zM) : zEv ph d 157 23 L st M = zcont ph d 157 (zstep ph (zEm ph d) 2 24 0 [3] L st M) := zEv_step rfl
theorem e157_24 (ph : Bool) (d : Nat) (L st : List zV) (M : zM) : zEv ph d 157 24 L st M = zcont ph d 157 (zstep ph (zEm ph d) 85 25 0 [] L st M) := zEv_step rfl
theorem e157_25 (ph : Bool) (d : Nat) (L st : List zV) (M : zM) : zEv ph d 157 25 L st M = zcont ph d 157 (zstep ph (zEm ph d) 52 28 29 [] L st M) := zEv_step rfl
theorem e157_28 (ph : Bool) (d : Nat) (L st : List zV) (M : zM) : zEv ph d 157 28 L st M = zcont ph d 157 (zstep ph (zEm ph d) 0 29 0 [0] L st M) := zEv_step rfl
theorem e157_29 (ph : Bool) (d : Nat) (L st : List zV) (M : zM) : zEv ph d 157 29 L st M = zcont ph d 157 (zstep ph (zEm ph d) 80 30 0 [] L st M) := zEv_step rfl
theorem m130 (ph : Bool) (d : Nat) (a x0 p0 y0 p1 y1 : Int) (M : zM) : zEm ph (d + 1) 130 [(26, a, x0), (28, p0, y0), (0, p1, y1)] M = zEv ph d 130 0 [(26, a, x0), (28, p0, y0), (0, p1, y1), (3, 0, 0)] [] M := rfl
theorem e130_0 (ph : Bool) (d : Nat) (L st : List zV) (M : zM) : zEv ph d 130 0 L st M = zcont ph d 130 (zstep ph (zEm ph d) 0 1 0 [0] L st M) := zEv_step rfl
theorem e130_1 (ph : Bool) (d : Nat) (L st : List zV) (M : zM) : zEv ph d 130 1 L st M = zcont ph d 130 (zstep ph (zEm ph d) 5 2 0 [3] L st M) := zEv_step rfl
theorem e130_2 (ph : Bool) (d : Nat) (L st : List zV) (M : zM) : zEv ph d 130 2 L st M = zcont ph d 130 (zstep ph (zEm ph d) 2 3 0 [3] L st M) := zEv_step rfl
theorem e130_3 (ph : Bool) (d : Nat) (L st : List zV) (M : zM) : zEv ph d 130 3 L st M = zcont ph d 130 (zstep ph (zEm ph d) 4 4 0 [1] L st M) := zEv_step rfl
theorem e130_4 (ph : Bool) (d : Nat) (L st : List zV) (M : zM) : zEv ph d 130 4 L st M = zcont ph d 130 (zstep ph (zEm ph d) 60 7 0 [28, 7] L st M) := zEv_step rfl
theorem e130_7 (ph : Bool) (d : Nat) (L st : List zV) (M : zM) : zEv ph d 130 7 L st M = zcont ph d 130 (zstep ph (zEm ph d) 49 10 45 [] L st M) := zEv_step rfl
theorem e130_10 (ph : Bool) (d : Nat) (L st : List zV) (M : zM) : zEv ph d 130 10 L st M = zcont ph d 130 (zstep ph (zEm ph d) 4 11 0 [0] L st M) := zEv_step rfl
theorem e130_11 (ph : Bool) (d : Nat) (L st : List zV) (M : zM) : zEv ph d 130 11 L st M = zcont ph d 130 (zstep ph (zEm ph d) 62 14 0 [26, 0, 1, 10, 10] L st M) := zEv_step rfl
theorem e130_14 (ph : Bool) (d : Nat) (L st : List zV) (M : zM) : zEv ph d 130 14 L st M = zcont ph d 130 (zstep ph (zEm ph d) 2 15 0 [3] L st M) := zEv_step rfl
theorem e130_15 (ph : Bool) (d : Nat) (L st : List zV) (M : zM) : zEv ph d 130 15 L st M = zcont ph d 130 (zstep ph (zEm ph d) 0 17 0 [20] L st M) := zEv_step rfl
theorem e130_17 (ph : Bool) (d : Nat) (L st : List zV) (M : zM) : zEv ph d 130 17 L st M = zcont ph d 130 (zstep ph (zEm ph d) 4 18 0 [0] L st M) := zEv_step rfl
theorem e130_18 (ph : Bool) (d : Nat) (L st : List zV) (M : zM) : zEv ph d 130 18 L st M = zcont ph d 130 (zstep ph (zEm ph d) 62 21 0 [26, 0, 1, 10, 10] L st M) := zEv_step rfl
theorem e130_21 (ph : Bool) (d : Nat) (L st : List zV) (M : zM) : zEv ph d 130 21 L st M = zcont ph d 130 (zstep ph (zEm ph d) 2 22 0 [3] L st M) := zEv_step rfl
theorem e130_22 (ph : Bool) (d : Nat) (L st : List zV) (M : zM) : zEv ph d 130 22 L st M = zcont ph d 130 (zstep ph (zEm ph d) 85 23 0 [] L st M) := zEv_step rfl
theorem e130_23 (ph : Bool) (d : Nat) (L st : List zV) (M : zM) : zEv ph d 130 23 L st M = zcont ph d 130 (zstep ph (zEm ph d) 4 24 0 [1] L st M) := zEv_step rfl
theorem e130_24 (ph : Bool) (d : Nat) (L st : List zV) (M : zM) : zEv ph d 130 24 L st M = zcont ph d 130 (zstep ph (zEm ph d) 2 25 0 [2] L st M) := zEv_step rfl
theorem e130_25 (ph : Bool) (d : Nat) (L st : List zV) (M : zM) : zEv ph d 130 25 L st M = zcont ph d 130 (zstep ph (zEm ph d) 4 26 0 [1] L st M) := zEv_step rfl
theorem e130_26 (ph : Bool) (d : Nat) (L st : List zV) (M : zM) : zEv ph d 130 26 L st M = zcont ph d 130 (zstep ph (zEm ph d) 62 29 0 [28, 3, 4, 10, 10] L st M) := zEv_step rfl
theorem e130_29 (ph : Bool) (d : Nat) (L st : List zV) (M : zM) : zEv ph d 130 29 L st M = zcont ph d 130 (zstep ph (zEm ph d) 2 30 0 [3] L st M) := zEv_step rfl
theorem e130_30 (ph : Bool) (d : Nat) (L st : List zV) (M : zM) : zEv ph d 130 30 L st M = zcont ph d 130 (zstep ph (zEm ph d) 85 31 0 [] L st M) := zEv_step rfl
theorem e130_31 (ph : Bool) (d : Nat) (L st : List zV) (M : zM) : zEv ph d 130 31 L st M = zcont ph d 130 (zstep ph (zEm ph d) 70 34 157 [3, 1, 28] L st M) := zEv_step rfl
theorem e130_34 (ph : Bool) (d : Nat) (L st : List zV) (M : zM) : zEv ph d 130 34 L st M = zcont ph d 130 (zstep ph (zEm ph d) 10 35 0 [] L st M) := zEv_step rfl
theorem e130_35 (ph : Bool) (d : Nat) (L st : List zV) (M : zM) : zEv ph d 130 35 L st M = zcont ph d 130 (zstep ph (zEm ph d) 72 38 0 [] L st M) := zEv_step rfl
theorem e130_38 (ph : Bool) (d : Nat) (L st : List zV) (M : zM) : zEv ph d 130 38 L st M = zcont ph d 130 (zstep ph (zEm ph d) 89 39 0 [] L st M) := zEv_step rfl
theorem e130_39 (ph : Bool) (d : Nat) (L st : List zV) (M : zM) : zEv ph d 130 39 L st M = zcont ph d 130 (zstep ph (zEm ph d) 8 42 0 [3, 1] L st M) := zEv_step rfl
theorem e130_42 (ph : Bool) (d : Nat) (L st : List zV) (M : zM) : zEv ph d 130 42 L st M = zcont ph d 130 (zstep ph (zEm ph d) 52 45 2 [] L st M) := zEv_step rfl
theorem e130_45 (ph : Bool) (d : Nat) (L st : List zV) (M : zM) : zEv ph d 130 45 L st M = zcont ph d 130 (zstep ph (zEm ph d) 83 46 0 [] L st M) := zEv_step rfl
theorem m129 (ph : Bool) (d : Nat) (a x0 p0 y0 p1 y1 : Int) (M : zM) : zEm ph (d + 1) 129 [(26, a, x0), (28, p0, y0), (0, p1, y1)] M = zEv ph d 129 0 [(26, a, x0), (28, p0, y0), (0, p1, y1), (3, 0, 0)] [] M := rfl
theorem e129_0 (ph : Bool) (d : Nat) (L st : List zV) (M : zM) : zEv ph d 129 0 L st M = zcont ph d 129 (zstep ph (zEm ph d) 4 1 0 [0] L st M) := zEv_step rfl
theorem e129_1 (ph : Bool) (d : Nat) (L st : List zV) (M : zM) : zEv ph d 129 1 L st M = zcont ph d 129 (zstep ph (zEm ph d) 62 4 0 [26, 4, 5, 10, 5] L st M) := zEv_step rfl
theorem e129_4 (ph : Bool) (d : Nat) (L st : List zV) (M : zM) : zEv ph d 129 4 L st M = zcont ph d 129 (zstep ph (zEm ph d) 2 5 0 [2] L st M) := zEv_step rfl
theorem e129_5 (ph : Bool) (d : Nat) (L st : List zV) (M : zM) : zEv ph d 129 5 L st M = zcont ph d 129 (zstep ph (zEm ph d) 85 6 0 [] L st M) := zEv_step rfl
theorem e129_6 (ph : Bool) (d : Nat) (L st : List zV) (M : zM) : zEv ph d 129 6 L st M = zcont ph d 129 (zstep ph (zEm ph d) 40 9 11 [] L st M) := zEv_step rfl
theorem e129_9 (ph : Bool) (d : Nat) (L st : List zV) (M : zM) : zEv ph d 129 9 L st M = zcont ph d 129 (zstep ph (zEm ph d) 0 10 0 [1] L st M) := zEv_step rfl
theorem e129_10 (ph : Bool) (d : Nat) (L st : List zV) (M : zM) : zEv ph d 129 10 L st M = zcont ph d 129 (zstep ph (zEm ph d) 80 11 0 [] L st M) := zEv_step rfl
theorem e129_11 (ph : Bool) (d : Nat) (L st : List zV) (M : zM) : zEv ph d 129 11 L st M = zcont ph d 129 (zstep ph (zEm ph d) 4 12 0 [0] L st M) := zEv_step rfl
theorem e129_12 (ph : Bool) (d : Nat) (L st : List zV) (M : zM) : zEv ph d 129 12 L st M = zcont ph d 129 (zstep ph (zEm ph d) 60 15 0 [26, 9] L st M) := zEv_step rfl
theorem e129_15 (ph : Bool) (d : Nat) (L st : List zV) (M : zM) : zEv ph d 129 15 L st M = zcont ph d 129 (zstep ph (zEm ph d) 0 16 0 [2] L st M) := zEv_step rfl
theorem e129_16 (ph : Bool) (d : Nat) (L st : List zV) (M : zM) : zEv ph d 129 16 L st M = zcont ph d 129 (zstep ph (zEm ph d) 47 19 21 [] L st M) := zEv_step rfl
theorem e129_19 (ph : Bool) (d : Nat) (L st : List zV) (M : zM) : zEv ph d 129 19 L st M = zcont ph d 129 (zstep ph (zEm ph d) 0 20 0 [2] L st M) := zEv_step rfl
theorem e129_20 (ph : Bool) (d : Nat) (L st : List zV) (M : zM) : zEv ph d 129 20 L st M = zcont ph d 129 (zstep ph (zEm ph d) 80 21 0 [] L st M) := zEv_step rfl
theorem e129_21 (ph : Bool) (d : Nat) (L st : List zV) (M : zM) : zEv ph d 129 21 L st M = zcont ph d 129 (zstep ph (zEm ph d) 4 22 0 [0] L st M) := zEv_step rfl
theorem e129_22 (ph : Bool) (d : Nat) (L st : List zV) (M : zM) : zEv ph d 129 22 L st M = zcont ph d 129 (zstep ph (zEm ph d) 4 23 0 [1] L st M) := zEv_step rfl
theorem e129_23 (ph : Bool) (d : Nat) (L st : List zV) (M : zM) : zEv ph d 129 23 L st M = zcont ph d 129 (zstep ph (zEm ph d) 70 26 123 [2, 1, 26] L st M) := zEv_step rfl
theorem e129_26 (ph : Bool) (d : Nat) (L st : List zV) (M : zM) : zEv ph d 129 26 L st M = zcont ph d 129 (zstep ph (zEm ph d) 40 29 31 [] L st M) := zEv_step rfl
theorem e129_29 (ph : Bool) (d : Nat) (L st : List zV) (M : zM) : zEv ph d 129 29 L st M = zcont ph d 129 (zstep ph (zEm ph d) 0 30 0 [3] L st M) := zEv_step rfl
theorem e129_30 (ph : Bool) (d : Nat) (L st : List zV) (M : zM) : zEv ph d 129 30 L st M = zcont ph d 129 (zstep ph (zEm ph d) 80 31 0 [] L st M) := zEv_step rfl
theorem e129_31 (ph : Bool) (d : Nat) (L st : List zV) (M : zM) : zEv ph d 129 31 L st M = zcont ph d 129 (zstep ph (zEm ph d) 4 32 0 [0] L st M) := zEv_step rfl
theorem e129_32 (ph : Bool) (d : Nat) (L st : List zV) (M : zM) : zEv ph d 129 32 L st M = zcont ph d 129 (zstep ph (zEm ph d) 4 33 0 [1] L st M) := zEv_step rfl
theorem e129_33 (ph : Bool) (d : Nat) (L st : List zV) (M : zM) : zEv ph d 129 33 L st M = zcont ph d 129 (zstep ph (zEm ph d) 4 34 0 [0] L st M) := zEv_step rfl
theorem e129_34 (ph : Bool) (d : Nat) (L st : List zV) (M : zM) : zEv ph d 129 34 L st M = zcont ph d 129 (zstep ph (zEm ph d) 62 37 0 [26, 2, 3, 10, 5] L st M) := zEv_step rfl
theorem e129_37 (ph : Bool) (d : Nat) (L st : List zV) (M : zM) : zEv ph d 129 37 L st M = zcont ph d 129 (zstep ph (zEm ph d) 2 38 0 [2] L st M) := zEv_step rfl
theorem e129_38 (ph : Bool) (d : Nat) (L st : List zV) (M : zM) : zEv ph d 129 38 L st M = zcont ph d 129 (zstep ph (zEm ph d) 85 39 0 [] L st M) := zEv_step rfl
theorem e129_39 (ph : Bool) (d : Nat) (L st : List zV) (M : zM) : zEv ph d 129 39 L st M = zcont ph d 129 (zstep ph (zEm ph d) 0 40 0 [0] L st M) := zEv_step rfl
theorem e129_40 (ph : Bool) (d : Nat) (L st : List zV) (M : zM) : zEv ph d 129 40 L st M = zcont ph d 129 (zstep ph (zEm ph d) 70 43 119 [4, 1, 26] L st M) := zEv_step rfl
theorem e129_43 (ph : Bool) (d : Nat) (L st : List zV) (M : zM) : zEv ph d 129 43 L st M = zcont ph d 129 (zstep ph (zEm ph d) 4 44 0 [0] L st M) := zEv_step rfl
theorem e129_44 (ph : Bool) (d : Nat) (L st : List zV) (M : zM) : zEv ph d 129 44 L st M = zcont ph d 129 (zstep ph (zEm ph d) 4 45 0 [1] L st M) := zEv_step rfl
theorem e129_45 (ph : Bool) (d : Nat) (L st : List zV) (M : zM) : zEv ph d 129 45 L st M = zcont ph d 129 (zstep ph (zEm ph d) 4 46 0 [0] L st M) := zEv_step rfl
theorem e129_46 (ph : Bool) (d : Nat) (L st : List zV) (M : zM) : zEv ph d 129 46 L st M = zcont ph d 129 (zstep ph (zEm ph d) 62 49 0 [26, 3, 4, 10, 5] L st M) := zEv_step rfl
theorem e129_49 (ph : Bool) (d : Nat) (L st : List zV) (M : zM) : zEv ph d 129 49 L st M = zcont ph d 129 (zstep ph (zEm ph d) 2 50 0 [2] L st M) := zEv_step rfl
theorem e129_50 (ph : Bool) (d : Nat) (L st : List zV) (M : zM) : zEv ph d 129 50 L st M = zcont ph d 129 (zstep ph (zEm ph d) 85 51 0 [] L st M) := zEv_step rfl
theorem e129_51 (ph : Bool) (d : Nat) (L st : List zV) (M : zM) : zEv ph d 129 51 L st M = zcont ph d 129 (zstep ph (zEm ph d) 0 52 0 [1] L st M) := zEv_step rfl
theorem e129_52 (ph : Bool) (d : Nat) (L st : List zV) (M : zM) : zEv ph d 129 52 L st M = zcont ph d 129 (zstep ph (zEm ph d) 70 55 119 [4, 1, 26] L st M) := zEv_step rfl
theorem e129_55 (ph : Bool) (d : Nat) (L st : List zV) (M : zM) : zEv ph d 129 55 L st M = zcont ph d 129 (zstep ph (zEm ph d) 11 56 0 [] L st M) := zEv_step rfl
theorem e129_56 (ph : Bool) (d : Nat) (L st : List zV) (M : zM) : zEv ph d 129 56 L st M = zcont ph d 129 (zstep ph (zEm ph d) 5 57 0 [3] L st M) := zEv_step rfl
theorem e129_57 (ph : Bool) (d : Nat) (L st : List zV) (M : zM) : zEv ph d 129 57 L st M = zcont ph d 129 (zstep ph (zEm ph d) 4 58 0 [0] L st M) := zEv_step rfl
theorem e129_58 (ph : Bool) (d : Nat) (L st : List zV) (M : zM) : zEv ph d 129 58 L st M = zcont ph d 129 (zstep ph (zEm ph d) 62 61 0 [26, 4, 5, 10, 5] L st M) := zEv_step rfl
theorem e129_61 (ph : Bool) (d : Nat) (L st : List zV) (M : zM) : zEv ph d 129 61 L st M = zcont ph d 129 (zstep ph (zEm ph d) 2 62 0 [2] L st M) := zEv_step rfl
theorem e129_62 (ph : Bool) (d : Nat) (L st : List zV) (M : zM) : zEv ph d 129 62 L st M = zcont ph d 129 (zstep ph (zEm ph d) 2 63 0 [3] L st M) := zEv_step rfl
theorem e129_63 (ph : Bool) (d : Nat) (L st : List zV) (M : zM) : zEv ph d 129 63 L st M = zcont ph d 129 (zstep ph (zEm ph d) 45 66 70 [] L st M) := zEv_step rfl
theorem e129_66 (ph : Bool) (d : Nat) (L st : List zV) (M : zM) : zEv ph d 129 66 L st M = zcont ph d 129 (zstep ph (zEm ph d) 0 67 0 [1] L st M) := zEv_step rfl
theorem e129_67 (ph : Bool) (d : Nat) (L st : List zV) (M : zM) : zEv ph d 129 67 L st M = zcont ph d 129 (zstep ph (zEm ph d) 52 70 71 [] L st M) := zEv_step rfl
theorem e129_70 (ph : Bool) (d : Nat) (L st : List zV) (M : zM) : zEv ph d 129 70 L st M = zcont ph d 129 (zstep ph (zEm ph d) 0 71 0 [2] L st M) := zEv_step rfl
theorem e129_71 (ph : Bool) (d : Nat) (L st : List zV) (M : zM) : zEv ph d 129 71 L st M = zcont ph d 129 (zstep ph (zEm ph d) 89 72 0 [] L st M) := zEv_step rfl
theorem e129_72 (ph : Bool) (d : Nat) (L st : List zV) (M : zM) : zEv ph d 129 72 L st M = zcont ph d 129 (zstep ph (zEm ph d) 4 73 0 [0] L st M) := zEv_step rfl
theorem e129_73 (ph : Bool) (d : Nat) (L st : List zV) (M : zM) : zEv ph d 129 73 L st M = zcont ph d 129 (zstep ph (zEm ph d) 62 76 0 [26, 5, 6, 10, 5] L st M) := zEv_step rfl
theorem e129_76 (ph : Bool) (d : Nat) (L st : List zV) (M : zM) : zEv ph d 129 76 L st M = zcont ph d 129 (zstep ph (zEm ph d) 2 77 0 [2] L st M) := zEv_step rfl
theorem e129_77 (ph : Bool) (d : Nat) (L st : List zV) (M : zM) : zEv ph d 129 77 L st M = zcont ph d 129 (zstep ph (zEm ph d) 4 78 0 [0] L st M) := zEv_step rfl
theorem e129_78 (ph : Bool) (d : Nat) (L st : List zV) (M : zM) : zEv ph d 129 78 L st M = zcont ph d 129 (zstep ph (zEm ph d) 60 81 0 [26, 10] L st M) := zEv_step rfl
theorem e129_81 (ph : Bool) (d : Nat) (L st : List zV) (M : zM) : zEv ph d 129 81 L st M = zcont ph d 129 (zstep ph (zEm ph d) 89 82 0 [] L st M) := zEv_step rfl
theorem e129_82 (ph : Bool) (d : Nat) (L st : List zV) (M : zM) : zEv ph d 129 82 L st M = zcont ph d 129 (zstep ph (zEm ph d) 4 83 0 [0] L st M) := zEv_step rfl
theorem e129_83 (ph : Bool) (d : Nat) (L st : List zV) (M : zM) : zEv ph d 129 83 L st M = zcont ph d 129 (zstep ph (zEm ph d) 62 86 0 [26, 6, 7, 10, 5] L st M) := zEv_step rfl
theorem e129_86 (ph : Bool) (d : Nat) (L st : List zV) (M : zM) : zEv ph d 129 86 L st M = zcont ph d 129 (zstep ph (zEm ph d) 2 87 0 [2] L st M) := zEv_step rfl
theorem e129_87 (ph : Bool) (d : Nat) (L st : List zV) (M : zM) : zEv ph d 129 87 L st M = zcont ph d 129 (zstep ph (zEm ph d) 2 88 0 [3] L st M) := zEv_step rfl
theorem e129_88 (ph : Bool) (d : Nat) (L st : List zV) (M : zM) : zEv ph d 129 88 L st M = zcont ph d 129 (zstep ph (zEm ph d) 73 91 0 [] L st M) := zEv_step rfl
theorem e129_91 (ph : Bool) (d : Nat) (L st : List zV) (M : zM) : zEv ph d 129 91 L st M = zcont ph d 129 (zstep ph (zEm ph d) 89 92 0 [] L st M) := zEv_step rfl
theorem e129_92 (ph : Bool) (d : Nat) (L st : List zV) (M : zM) : zEv ph d 129 92 L st M = zcont ph d 129 (zstep ph (zEm ph d) 2 93 0 [3] L st M) := zEv_step rfl
theorem e129_93 (ph : Bool) (d : Nat) (L st : List zV) (M : zM) : zEv ph d 129 93 L st M = zcont ph d 129 (zstep ph (zEm ph d) 45 96 102 [] L st M) := zEv_step rfl
theorem e129_96 (ph : Bool) (d : Nat) (L st : List zV) (M : zM) : zEv ph d 129 96 L st M = zcont ph d 129 (zstep ph (zEm ph d) 4 97 0 [0] L st M) := zEv_step rfl
theorem e129_97 (ph : Bool) (d : Nat) (L st : List zV) (M : zM) : zEv ph d 129 97 L st M = zcont ph d 129 (zstep ph (zEm ph d) 4 98 0 [1] L st M) := zEv_step rfl
theorem e129_98 (ph : Bool) (d : Nat) (L st : List zV) (M : zM) : zEv ph d 129 98 L st M = zcont ph d 129 (zstep ph (zEm ph d) 2 99 0 [2] L st M) := zEv_step rfl
theorem e129_99 (ph : Bool) (d : Nat) (L st : List zV) (M : zM) : zEv ph d 129 99 L st M = zcont ph d 129 (zstep ph (zEm ph d) 70 102 130 [3, 0, 26] L st M) := zEv_step rfl
theorem e129_102 (ph : Bool) (d : Nat) (L st : List zV) (M : zM) : zEv ph d 129 102 L st M = zcont ph d 129 (zstep ph (zEm ph d) 0 103 0 [0] L st M) := zEv_step rfl
theorem e129_103 (ph : Bool) (d : Nat) (L st : List zV) (M : zM) : zEv ph d 129 103 L st M = zcont ph d 129 (zstep ph (zEm ph d) 80 104 0 [] L st M) := zEv_step rfl
theorem m133 (ph : Bool) (d : Nat) (a x0 p0 y0 : Int) (M : zM) : zEm ph (d + 1) 133 [(26, a, x0), (28, p0, y0)] M = zEv ph d 133 0 [(26, a, x0), (28, p0, y0), (3, 0, 0)] [] M := rfl
theorem e133_0 (ph : Bool) (d : Nat) (L st : List zV) (M : zM) : zEv ph d 133 0 L st M = zcont ph d 133 (zstep ph (zEm ph d) 4 1 0 [0] L st M) := zEv_step rfl
theorem e133_1 (ph : Bool) (d : Nat) (L st : List zV) (M : zM) : zEv ph d 133 1 L st M = zcont ph d 133 (zstep ph (zEm ph d) 60 4 0 [26, 10] L st M) := zEv_step rfl
theorem e133_4 (ph : Bool) (d : Nat) (L st : List zV) (M : zM) : zEv ph d 133 4 L st M = zcont ph d 133 (zstep ph (zEm ph d) 0 7 0 [400] L st M) := zEv_step rfl
theorem e133_7 (ph : Bool) (d : Nat) (L st : List zV) (M : zM) : zEv ph d 133 7 L st M = zcont ph d 133 (zstep ph (zEm ph d) 48 10 12 [] L st M) := zEv_step rfl
theorem e133_10 (ph : Bool) (d : Nat) (L st : List zV) (M : zM) : zEv ph d 133 10 L st M = zcont ph d 133 (zstep ph (zEm ph d) 0 11 0 [0] L st M) := zEv_step rfl
theorem e133_11 (ph : Bool) (d : Nat) (L st : List zV) (M : zM) : zEv ph d 133 11 L st M = zcont ph d 133 (zstep ph (zEm ph d) 80 12 0 [0, 1] L st M) := zEv_step rfl
theorem e133_12 (ph : Bool) (d : Nat) (L st : List zV) (M : zM) : zEv ph d 133 12 L st M = zcont ph d 133 (zstep ph (zEm ph d) 0 13 0 [0] L st M) := zEv_step rfl
theorem e133_13 (ph : Bool) (d : Nat) (L st : List zV) (M : zM) : zEv ph d 133 13 L st M = zcont ph d 133 (zstep ph (zEm ph d) 5 14 0 [2] L st M) := zEv_step rfl
theorem e133_14 (ph : Bool) (d : Nat) (L st : List zV) (M : zM) : zEv ph d 133 14 L st M = zcont ph d 133 (zstep ph (zEm ph d) 2 15 0 [2] L st M) := zEv_step rfl
theorem e133_15 (ph : Bool) (d : Nat) (L st : List zV) (M : zM) : zEv ph d 133 15 L st M = zcont ph d 133 (zstep ph (zEm ph d) 4 16 0 [1] L st M) := zEv_step rfl
theorem e133_16 (ph : Bool) (d : Nat) (L st : List zV) (M : zM) : zEv ph d 133 16 L st M = zcont ph d 133 (zstep ph (zEm ph d) 60 19 0 [28, 7] L st M) := zEv_step rfl
theorem e133_19 (ph : Bool) (d : Nat) (L st : List zV) (M : zM) : zEv ph d 133 19 L st M = zcont ph d 133 (zstep ph (zEm ph d) 49 22 59 [] L st M) := zEv_step rfl
theorem e133_22 (ph : Bool) (d : Nat) (L st : List zV) (M : zM) : zEv ph d 133 22 L st M = zcont ph d 133 (zstep ph (zEm ph d) 4 23 0 [0] L st M) := zEv_step rfl
theorem e133_23 (ph : Bool) (d : Nat) (L st : List zV) (M : zM) : zEv ph d 133 23 L st M = zcont ph d 133 (zstep ph (zEm ph d) 2 24 0 [2] L st M) := zEv_step rfl
theorem e133_24 (ph : Bool) (d : Nat) (L st : List zV) (M : zM) : zEv ph d 133 24 L st M = zcont ph d 133 (zstep ph (zEm ph d) 70 27 114 [2, 1, 26] L st M) := zEv_step rfl
theorem e133_27 (ph : Bool) (d : Nat) (L st : List zV) (M : zM) : zEv ph d 133 27 L st M = zcont ph d 133 (zstep ph (zEm ph d) 41 30 53 [] L st M) := zEv_step rfl
theorem e133_30 (ph : Bool) (d : Nat) (L st : List zV) (M : zM) : zEv ph d 133 30 L st M = zcont ph d 133 (zstep ph (zEm ph d) 4 31 0 [0] L st M) := zEv_step rfl
theorem e133_31 (ph : Bool) (d : Nat) (L st : List zV) (M : zM) : zEv ph d 133 31 L st M = zcont ph d 133 (zstep ph (zEm ph d) 62 34 0 [26, 1, 2, 10, 10] L st M) := zEv_step rfl
theorem e133_34 (ph : Bool) (d : Nat) (L st : List zV) (M : zM) : zEv ph d 133 34 L st M = zcont ph d 133 (zstep ph (zEm ph d) 2 35 0 [2] L st M) := zEv_step rfl
theorem e133_35 (ph : Bool) (d : Nat) (L st : List zV) (M : zM) : zEv ph d 133 35 L st M = zcont ph d 133 (zstep ph (zEm ph d) 0 38 0 [999] L st M) := zEv_step rfl
theorem e133_38 (ph : Bool) (d : Nat) (L st : List zV) (M : zM) : zEv ph d 133 38 L st M = zcont ph d 133 (zstep ph (zEm ph d) 4 39 0 [0] L st M) := zEv_step rfl
theorem e133_39 (ph : Bool) (d : Nat) (L st : List zV) (M : zM) : zEv ph d 133 39 L st M = zcont ph d 133 (zstep ph (zEm ph d) 62 42 0 [26, 1, 2, 10, 10] L st M) := zEv_step rfl
theorem e133_42 (ph : Bool) (d : Nat) (L st : List zV) (M : zM) : zEv ph d 133 42 L st M = zcont ph d 133 (zstep ph (zEm ph d) 2 43 0 [2] L st M) := zEv_step rfl
theorem e133_43 (ph : Bool) (d : Nat) (L st : List zV) (M : zM) : zEv ph d 133 43 L st M = zcont ph d 133 (zstep ph (zEm ph d) 85 44 0 [] L st M) := zEv_step rfl
theorem e133_44 (ph : Bool) (d : Nat) (L st : List zV) (M : zM) : zEv ph d 133 44 L st M = zcont ph d 133 (zstep ph (zEm ph d) 4 45 0 [1] L st M) := zEv_step rfl
theorem e133_45 (ph : Bool) (d : Nat) (L st : List zV) (M : zM) : zEv ph d 133 45 L st M = zcont ph d 133 (zstep ph (zEm ph d) 60 48 0 [28, 11] L st M) := zEv_step rfl
theorem e133_48 (ph : Bool) (d : Nat) (L st : List zV) (M : zM) : zEv ph d 133 48 L st M = zcont ph d 133 (zstep ph (zEm ph d) 10 49 0 [] L st M) := zEv_step rfl
theorem e133_49 (ph : Bool) (d : Nat) (L st : List zV) (M : zM) : zEv ph d 133 49 L st M = zcont ph d 133 (zstep ph (zEm ph d) 72 52 0 [] L st M) := zEv_step rfl
theorem e133_52 (ph : Bool) (d : Nat) (L st : List zV) (M : zM) : zEv ph d 133 52 L st M = zcont ph d 133 (zstep ph (zEm ph d) 89 53 0 [] L st M) := zEv_step rfl
theorem e133_53 (ph : Bool) (d : Nat) (L st : List zV) (M : zM) : zEv ph d 133 53 L st M = zcont ph d 133 (zstep ph (zEm ph d) 8 56 0 [2, 1] L st M) := zEv_step rfl
theorem e133_56 (ph : Bool) (d : Nat) (L st : List zV) (M : zM) : zEv ph d 133 56 L st M = zcont ph d 133 (zstep ph (zEm ph d) 52 59 14 [] L st M) := zEv_step rfl
theorem e133_59 (ph : Bool) (d : Nat) (L st : List zV) (M : zM) : zEv ph d 133 59 L st M = zcont ph d 133 (zstep ph (zEm ph d) 4 60 0 [0] L st M) := zEv_step rfl
theorem e133_60 (ph : Bool) (d : Nat) (L st : List zV) (M : zM) : zEv ph d 133 60 L st M = zcont ph d 133 (zstep ph (zEm ph d) 0 61 0 [0] L st M) := zEv_step rfl
theorem e133_61 (ph : Bool) (d : Nat) (L st : List zV) (M : zM) : zEv ph d 133 61 L st M = zcont ph d 133 (zstep ph (zEm ph d) 65 64 0 [26, 9] L st M) := zEv_step rfl
theorem e133_64 (ph : Bool) (d : Nat) (L st : List zV) (M : zM) : zEv ph d 133 64 L st M = zcont ph d 133 (zstep ph (zEm ph d) 4 65 0 [0] L st M) := zEv_step rfl
theorem e133_65 (ph : Bool) (d : Nat) (L st : List zV) (M : zM) : zEv ph d 133 65 L st M = zcont ph d 133 (zstep ph (zEm ph d) 36 66 0 [] L st M) := zEv_step rfl
theorem e133_66 (ph : Bool) (d : Nat) (L st : List zV) (M : zM) : zEv ph d 133 66 L st M = zcont ph d 133 (zstep ph (zEm ph d) 60 69 0 [26, 10] L st M) := zEv_step rfl
theorem e133_69 (ph : Bool) (d : Nat) (L st : List zV) (M : zM) : zEv ph d 133 69 L st M = zcont ph d 133 (zstep ph (zEm ph d) 0 70 0 [1] L st M) := zEv_step rfl
theorem e133_70 (ph : Bool) (d : Nat) (L st : List zV) (M : zM) : zEv ph d 133 70 L st M = zcont ph d 133 (zstep ph (zEm ph d) 10 71 0 [] L st M) := zEv_step rfl
theorem e133_71 (ph : Bool) (d : Nat) (L st : List zV) (M : zM) : zEv ph d 133 71 L st M = zcont ph d 133 (zstep ph (zEm ph d) 65 74 0 [26, 10] L st M) := zEv_step rfl
theorem e133_74 (ph : Bool) (d : Nat) (L st : List zV) (M : zM) : zEv ph d 133 74 L st M = zcont ph d 133 (zstep ph (zEm ph d) 0 75 0 [1] L st M) := zEv_step rfl
theorem e133_75 (ph : Bool) (d : Nat) (L st : List zV) (M : zM) : zEv ph d 133 75 L st M = zcont ph d 133 (zstep ph (zEm ph d) 80 76 0 [0, 1] L st M) := zEv_step rfl
theorem m158 (ph : Bool) (d : Nat) (a x0 : Int) (M : zM) : zEm ph (d + 1) 158 [(28, a, x0)] M = zEv ph d 158 0 [(28, a, x0)] [] M := rfl
theorem e158_0 (ph : Bool) (d : Nat) (L st : List zV) (M : zM) : zEv ph d 158 0 L st M = zcont ph d 158 (zstep ph (zEm ph d) 0 1 0 [1] L st M) := zEv_step rfl
theorem e158_1 (ph : Bool) (d : Nat) (L st : List zV) (M : zM) : zEv ph d 158 1 L st M = zcont ph d 158 (zstep ph (zEm ph d) 4 2 0 [0] L st M) := zEv_step rfl
theorem e158_2 (ph : Bool) (d : Nat) (L st : List zV) (M : zM) : zEv ph d 158 2 L st M = zcont ph d 158 (zstep ph (zEm ph d) 60 5 0 [28, 7] L st M) := zEv_step rfl
theorem e158_5 (ph : Bool) (d : Nat) (L st : List zV) (M : zM) : zEv ph d 158 5 L st M = zcont ph d 158 (zstep ph (zEm ph d) 19 6 0 [] L st M) := zEv_step rfl
theorem e158_6 (ph : Bool) (d : Nat) (L st : List zV) (M : zM) : zEv ph d 158 6 L st M = zcont ph d 158 (zstep ph (zEm ph d) 0 7 0 [1] L st M) := zEv_step rfl
theorem e158_7 (ph : Bool) (d : Nat) (L st : List zV) (M : zM) : zEv ph d 158 7 L st M = zcont ph d 158 (zstep ph (zEm ph d) 11 8 0 [] L st M) := zEv_step rfl
theorem e158_8 (ph : Bool) (d : Nat) (L st : List zV) (M : zM) : zEv ph d 158 8 L st M = zcont ph d 158 (zstep ph (zEm ph d) 80 9 0 [] L st M) := zEv_step rfl
theorem m159 (ph : Bool) (d : Nat) (a x0 p0 y0 : Int) (M : zM) : zEm ph (d + 1) 159 [(28, a, x0), (0, p0, y0)] M = zEv ph d 159 0 [(28, a, x0), (0, p0, y0), (3, 0, 0), (3, 0, 0)] [] M := rfl
theorem e159_0 (ph : Bool) (d : Nat) (L st : List zV) (M : zM) : zEv ph d 159 0 L st M = zcont ph d 159 (zstep ph (zEm ph d) 0 1 0 [0] L st M) := zEv_step rfl
theorem e159_1 (ph : Bool) (d : Nat) (L st : List zV) (M : zM) : zEv ph d 159 1 L st M = zcont ph d 159 (zstep ph (zEm ph d) 5 2 0 [2] L st M) := zEv_step rfl
theorem e159_2 (ph : Bool) (d : Nat) (L st : List zV) (M : zM) : zEv ph d 159 2 L st M = zcont ph d 159 (zstep ph (zEm ph d) 0 3 0 [0] L st M) := zEv_step rfl
theorem e159_3 (ph : Bool) (d : Nat) (L st : List zV) (M : zM) : zEv ph d 159 3 L st M = zcont ph d 159 (zstep ph (zEm ph d) 5 4 0 [3] L st M) := zEv_step rfl
theorem e159_4 (ph : Bool) (d : Nat) (L st : List zV) (M : zM) : zEv ph d 159 4 L st M = zcont ph d 159 (zstep ph (zEm ph d) 2 5 0 [3] L st M) := zEv_step rfl
theorem e159_5 (ph : Bool) (d : Nat) (L st : List zV) (M : zM) : zEv ph d 159 5 L st M = zcont ph d 159 (zstep ph (zEm ph d) 4 6 0 [0] L st M) := zEv_step rfl
theorem e159_6 (ph : Bool) (d : Nat) (L st : List zV) (M : zM) : zEv ph d 159 6 L st M = zcont ph d 159 (zstep ph (zEm ph d) 60 9 0 [28, 7] L st M) := zEv_step rfl
theorem e159_9 (ph : Bool) (d : Nat) (L st : List zV) (M : zM) : zEv ph d 159 9 L st M = zcont ph d 159 (zstep ph (zEm ph d) 49 12 37 [] L st M) := zEv_step rfl
theorem e159_12 (ph : Bool) (d : Nat) (L st : List zV) (M : zM) : zEv ph d 159 12 L st M = zcont ph d 159 (zstep ph (zEm ph d) 2 13 0 [1] L st M) := zEv_step rfl
theorem e159_13 (ph : Bool) (d : Nat) (L st : List zV) (M : zM) : zEv ph d 159 13 L st M = zcont ph d 159 (zstep ph (zEm ph d) 4 14 0 [0] L st M) := zEv_step rfl
theorem e159_14 (ph : Bool) (d : Nat) (L st : List zV) (M : zM) : zEv ph d 159 14 L st M = zcont ph d 159 (zstep ph (zEm ph d) 62 17 0 [28, 3, 4, 10, 10] L st M) := zEv_step rfl
theorem e159_17 (ph : Bool) (d : Nat) (L st : List zV) (M : zM) : zEv ph d 159 17 L st M = zcont ph d 159 (zstep ph (zEm ph d) 2 18 0 [3] L st M) := zEv_step rfl
theorem e159_18 (ph : Bool) (d : Nat) (L st : List zV) (M : zM) : zEv ph d 159 18 L st M = zcont ph d 159 (zstep ph (zEm ph d) 85 19 0 [] L st M) := zEv_step rfl
theorem e159_19 (ph : Bool) (d : Nat) (L st : List zV) (M : zM) : zEv ph d 159 19 L st M = zcont ph d 159 (zstep ph (zEm ph d) 20 20 0 [] L st M) := zEv_step rfl
theorem e159_20 (ph : Bool) (d : Nat) (L st : List zV) (M : zM) : zEv ph d 159 20 L st M = zcont ph d 159 (zstep ph (zEm ph d) 0 21 0 [1] L st M) := zEv_step rfl
theorem e159_21 (ph : Bool) (d : Nat) (L st : List zV) (M : zM) : zEv ph d 159 21 L st M = zcont ph d 159 (zstep ph (zEm ph d) 16 22 0 [] L st M) := zEv_step rfl
theorem e159_22 (ph : Bool) (d : Nat) (L st : List zV) (M : zM) : zEv ph d 159 22 L st M = zcont ph d 159 (zstep ph (zEm ph d) 40 25 31 [] L st M) := zEv_step rfl
theorem e159_25 (ph : Bool) (d : Nat) (L st : List zV) (M : zM) : zEv ph d 159 25 L st M = zcont ph d 159 (zstep ph (zEm ph d) 2 26 0 [2] L st M) := zEv_step rfl
theorem e159_26 (ph : Bool) (d : Nat) (L st : List zV) (M : zM) : zEv ph d 159 26 L st M = zcont ph d 159 (zstep ph (zEm ph d) 0 27 0 [1] L st M) := zEv_step rfl
theorem e159_27 (ph : Bool) (d : Nat) (L st : List zV) (M : zM) : zEv ph d 159 27 L st M = zcont ph d 159 (zstep ph (zEm ph d) 2 28 0 [3] L st M) := zEv_step rfl
theorem e159_28 (ph : Bool) (d : Nat) (L st : List zV) (M : zM) : zEv ph d 159 28 L st M = zcont ph d 159 (zstep ph (zEm ph d) 19 29 0 [] L st M) := zEv_step rfl
theorem e159_29 (ph : Bool) (d : Nat) (L st : List zV) (M : zM) : zEv ph d 159 29 L st M = zcont ph d 159 (zstep ph (zEm ph d) 17 30 0 [] L st M) := zEv_step rfl
theorem e159_30 (ph : Bool) (d : Nat) (L st : List zV) (M : zM) : zEv ph d 159 30 L st M = zcont ph d 159 (zstep ph (zEm ph d) 5 31 0 [2] L st M) := zEv_step rfl
theorem e159_31 (ph : Bool) (d : Nat) (L st : List zV) (M : zM) : zEv ph d 159 31 L st M = zcont ph d 159 (zstep ph (zEm ph d) 8 34 0 [3, 1] L st M) := zEv_step rfl
theorem e159_34 (ph : Bool) (d : Nat) (L st : List zV) (M : zM) : zEv ph d 159 34 L st M = zcont ph d 159 (zstep ph (zEm ph d) 52 37 4 [] L st M) := zEv_step rfl
theorem e159_37 (ph : Bool) (d : Nat) (L st : List zV) (M : zM) : zEv ph d 159 37 L st M = zcont ph d 159 (zstep ph (zEm ph d) 2 38 0 [2] L st M) := zEv_step rfl
theorem e159_38 (ph : Bool) (d : Nat) (L st : List zV) (M : zM) : zEv ph d 159 38 L st M = zcont ph d 159 (zstep ph (zEm ph d) 80 39 0 [] L st M) := zEv_step rfl
theorem s_carries (d : Nat) (a x0 l x1 p y q y2 : Int) (M : zM) (hG : okG (zvG M l)) : zEm true (d + 4) 120 [(26, a, x0), (28, l, x1), (0, p, y), (0, q, y2)] M = some ((0, if sCar (zvS M a) (zvG M l) p q = true then 1 else 0, 0), M) := by
  obtain ⟨-, ⟨g1, g2⟩, -⟩ := okG_M hG
  unfold sCar
  by_cases c : sWay (zvS M a) (zvG M l) q 1 < sWay (zvS M a) (zvG M l) p 0
  · simp (disch := first | assumption | exact zrm0 | exact zrm1 _ | exact zrm2 _ _ | exact zrm3 _ _ _ | exact zrm4 _ _ _ _ | omega) only [m120, ↓k_dp, ↓k_dn, k_dp, k_dn, k_dT, k_dF, k_ip, k_in, if_true, if_false, ne_eq, not_true_eq_false, not_false_eq_true, Int.reduceAdd, zup_a, zup_e, zup_j, z32_id, k_al0, k_al1, k_il2, k_ic, k_v4r, k_il3, k_icle, k_goto, k_rz, zb0_some, zb1_some, e120_0, e120_1, e120_2, e120_3, e120_4, e120_7, e120_8, e120_9, e120_10, e120_11, e120_14, e120_17, e120_18, e120_21, e120_22, s_wayNoise, decide_eq_true c]
  · simp (disch := first | assumption | exact zrm0 | exact zrm1 _ | exact zrm2 _ _ | exact zrm3 _ _ _ | exact zrm4 _ _ _ _ | omega) only [m120, ↓k_dp, ↓k_dn, k_dp, k_dn, k_dT, k_dF, k_ip, k_in, if_true, if_false, ne_eq, not_true_eq_false, not_false_eq_true, Int.reduceAdd, zup_a, zup_e, zup_j, z32_id, k_al0, k_al1, k_il2, k_ic, k_v4r, k_il3, k_icle, k_goto, k_rz, zb0_some, zb1_some, e120_0, e120_1, e120_2, e120_3, e120_4, e120_7, e120_8, e120_9, e120_10, e120_11, e120_14, e120_17, e120_18, e120_21, e120_22, s_wayNoise, decide_eq_false c, Bool.false_eq_true]
theorem s_wouldCarry (d : Nat) (a x0 l x1 q y2 : Int) (M : zM) (hG : okG (zvG M l)) (q0 : 0 ≤ q) (q1 : q < 5) : zEm true (d + 5) 121 [(26, a, x0), (28, l, x1), (0, q, y2)] M = some ((0, if sWould (zvS M a) (zvG M l) q = true then 1 else 0, 0), M) := by
  unfold sWould
  rw [zvS_3 q0 q1, zvS_4 q0 q1]
  by_cases c : sCar (zvS M a) (zvG M l) (M (a + 3) q) (M (a + 4) q) = true
  · simp (disch := first | assumption | exact zrm0 | exact zrm1 _ | exact zrm2 _ _ | exact zrm3 _ _ _ | exact zrm4 _ _ _ _ | omega) only [m121, ↓k_dp, ↓k_dn, k_dp, k_dn, k_dT, k_dF, k_ip, k_in, if_true, if_false, ne_eq, not_true_eq_false, not_false_eq_true, Int.reduceAdd, zup_a, zup_e, zup_j, z32_id, k_al0, k_al1, k_gR, k_il2, k_ild, k_ildS, k_ildW, k_v4r, k_rz, zb0_some, zb1_some, e121_0, e121_1, e121_2, e121_3, e121_6, e121_7, e121_8, e121_9, e121_12, e121_13, e121_14, e121_17, s_carries, c]
  · simp (disch := first | assumption | exact zrm0 | exact zrm1 _ | exact zrm2 _ _ | exact zrm3 _ _ _ | exact zrm4 _ _ _ _ | omega) only [m121, ↓k_dp, ↓k_dn, k_dp, k_dn, k_dT, k_dF, k_ip, k_in, if_true, if_false, ne_eq, not_true_eq_false, not_false_eq_true, Int.reduceAdd, zup_a, zup_e, zup_j, z32_id, k_al0, k_al1, k_gR, k_il2, k_ild, k_ildS, k_ildW, k_v4r, k_rz, zb0_some, zb1_some, e121_0, e121_1, e121_2, e121_3, e121_6, e121_7, e121_8, e121_9, e121_12, e121_13, e121_14, e121_17, s_carries, c, Bool.false_eq_true]
theorem s_questionsThatAre (d : Nat) (a x0 l x1 how y2 : Int) (M : zM) (hG : okG (zvG M l)) : zEm true (d + 1) 122 [(26, a, x0), (28, l, x1), (0, how, y2)] M = some ((0, sThose (zvS M a) (zvG M l) how, 0), M) := by
  obtain ⟨-, -, ⟨g1, g2⟩, -⟩ := okG_M hG
  have hl := zfor (ph := true) (d := d) (j := 122) (pc := 5) (fun q v => if zvS M a 5 q = how then zor v (zshl 1 q) else v) (fun q _ => 0 ≤ q) (fun q v => [(26, a, x0), (28, l, x1), (0, how, y2), (0, v, 0), (0, q, 0)]) (fun _ => M) (M l 8)
    (fun k b hk hp => ⟨by
      rw [e122_5, zvS_5 hp (by omega)]
      by_cases c1 : M (a + 5) k = how
      · simp (disch := first | assumption | exact zrm0 | exact zrm1 _ | exact zrm2 _ _ | exact zrm3 _ _ _ | exact zrm4 _ _ _ _ | omega) only [m122, ↓k_dp, ↓k_dn, k_dp, k_dn, k_dT, k_dF, k_ip, k_in, if_true, if_false, ne_eq, not_true_eq_false, not_false_eq_true, Int.reduceAdd, zup_a, zup_e, zup_j, z32_id, k_ic, k_is3, k_is4, k_il4, k_al1, k_gI, k_icge, k_al0, k_gR, k_ild, k_ildS, k_ildW, k_il2, k_icne, k_il3, k_ishl, k_ior, k_inc4, k_goto, k_ri, e122_0, e122_1, e122_2, e122_3, e122_7, e122_8, e122_11, e122_14, e122_15, e122_18, e122_20, e122_21, e122_22, e122_25, e122_26, e122_27, e122_29, e122_30, e122_31, e122_32, e122_35, e122_38, e122_39, if_pos c1]
      · simp (disch := first | assumption | exact zrm0 | exact zrm1 _ | exact zrm2 _ _ | exact zrm3 _ _ _ | exact zrm4 _ _ _ _ | omega) only [m122, ↓k_dp, ↓k_dn, k_dp, k_dn, k_dT, k_dF, k_ip, k_in, if_true, if_false, ne_eq, not_true_eq_false, not_false_eq_true, Int.reduceAdd, zup_a, zup_e, zup_j, z32_id, k_ic, k_is3, k_is4, k_il4, k_al1, k_gI, k_icge, k_al0, k_gR, k_ild, k_ildS, k_ildW, k_il2, k_icne, k_il3, k_ishl, k_ior, k_inc4, k_goto, k_ri, e122_0, e122_1, e122_2, e122_3, e122_7, e122_8, e122_11, e122_14, e122_15, e122_18, e122_20, e122_21, e122_22, e122_25, e122_26, e122_27, e122_29, e122_30, e122_31, e122_32, e122_35, e122_38, e122_39, if_neg c1], by omega⟩) (M l 8).toNat 0 0 (by omega) (Int.le_refl _)
  simp (disch := first | assumption | exact zrm0 | exact zrm1 _ | exact zrm2 _ _ | exact zrm3 _ _ _ | exact zrm4 _ _ _ _ | omega) only [m122, ↓k_dp, ↓k_dn, k_dp, k_dn, k_dT, k_dF, k_ip, k_in, if_true, if_false, ne_eq, not_true_eq_false, not_false_eq_true, Int.reduceAdd, zup_a, zup_e, zup_j, z32_id, k_ic, k_is3, k_is4, k_il4, k_al1, k_gI, k_icge, k_al0, k_gR, k_ild, k_ildS, k_ildW, k_il2, k_icne, k_il3, k_ishl, k_ior, k_inc4, k_goto, k_ri, e122_0, e122_1, e122_2, e122_3, e122_7, e122_8, e122_11, e122_14, e122_15, e122_18, e122_20, e122_21, e122_22, e122_25, e122_26, e122_27, e122_29, e122_30, e122_31, e122_32, e122_35, e122_38, e122_39]
  rw [hl.1]
  unfold sThose
  simp (disch := omega) only [zvG_0]
  simp (disch := first | assumption | exact zrm0 | exact zrm1 _ | exact zrm2 _ _ | exact zrm3 _ _ _ | exact zrm4 _ _ _ _ | omega) only [m122, ↓k_dp, ↓k_dn, k_dp, k_dn, k_dT, k_dF, k_ip, k_in, if_true, if_false, ne_eq, not_true_eq_false, not_false_eq_true, Int.reduceAdd, zup_a, zup_e, zup_j, z32_id, k_ic, k_is3, k_is4, k_il4, k_al1, k_gI, k_icge, k_al0, k_gR, k_ild, k_ildS, k_ildW, k_il2, k_icne, k_il3, k_ishl, k_ior, k_inc4, k_goto, k_ri, e122_0, e122_1, e122_2, e122_3, e122_5, e122_7, e122_8, e122_11, e122_14, e122_15, e122_18, e122_20, e122_21, e122_22, e122_25, e122_26, e122_27, e122_29, e122_30, e122_31, e122_32, e122_35, e122_38, e122_39]
theorem s_wasPut0 (d : Nat) (a x0 l x1 : Int) (M : zM) (g2 : M l 8 ≤ 5) : ∀ (n : Nat) (k : Int), k + n = M l 8 → 0 ≤ k → zEv true d 123 2 [(26, a, x0), (28, l, x1), (0, k, 0)] [] M = some ((0, if zany (fun q => decide (zvS M a 5 q ≠ 0) && decide (zvS M a 6 q = M a 10)) n k = true then 1 else 0, 0), M)
  | 0, k, hn, h0 => by
    have hk : k = M l 8 := by omega
    subst hk
    unfold zany
    simp (disch := first | assumption | exact zrm0 | exact zrm1 _ | exact zrm2 _ _ | exact zrm3 _ _ _ | exact zrm4 _ _ _ _ | omega) only [m123, ↓k_dp, ↓k_dn, k_dp, k_dn, k_dT, k_dF, k_ip, k_in, if_true, if_false, ne_eq, not_true_eq_false, not_false_eq_true, Int.reduceAdd, zup_a, zup_e, zup_j, z32_id, k_ic, k_is2, k_il2, k_al1, k_gI, k_icge, k_al0, k_gR, k_ild, k_ildS, k_ildW, k_ifeq, k_icne, k_rz, k_inc2, k_goto, e123_0, e123_1, e123_2, e123_3, e123_4, e123_7, e123_10, e123_11, e123_14, e123_15, e123_16, e123_19, e123_20, e123_23, e123_24, e123_25, e123_26, e123_29, e123_32, e123_33, e123_34, e123_37, e123_40, e123_41, Bool.false_eq_true]
  | n + 1, k, hn, h0 => by
    unfold zany
    rw [zvS_5 h0 (by omega), zvS_6 h0 (by omega), e123_2]
    by_cases c1 : M (a + 5) k = 0
    · simp (disch := first | assumption | exact zrm0 | exact zrm1 _ | exact zrm2 _ _ | exact zrm3 _ _ _ | exact zrm4 _ _ _ _ | omega) only [m123, ↓k_dp, ↓k_dn, k_dp, k_dn, k_dT, k_dF, k_ip, k_in, if_true, if_false, ne_eq, not_true_eq_false, not_false_eq_true, Int.reduceAdd, zup_a, zup_e, zup_j, z32_id, k_ic, k_is2, k_il2, k_al1, k_gI, k_icge, k_al0, k_gR, k_ild, k_ildS, k_ildW, k_ifeq, k_icne, k_rz, k_inc2, k_goto, e123_0, e123_1, e123_3, e123_4, e123_7, e123_10, e123_11, e123_14, e123_15, e123_16, e123_19, e123_20, e123_23, e123_24, e123_25, e123_26, e123_29, e123_32, e123_33, e123_34, e123_37, e123_40, e123_41, c1, decide_false, Bool.false_and, Bool.false_eq_true]
      exact s_wasPut0 d a x0 l x1 M g2 n (k + 1) (by omega) (by omega)
    · by_cases c2 : M (a + 6) k = M a 10
      · simp (disch := first | assumption | exact zrm0 | exact zrm1 _ | exact zrm2 _ _ | exact zrm3 _ _ _ | exact zrm4 _ _ _ _ | omega) only [m123, ↓k_dp, ↓k_dn, k_dp, k_dn, k_dT, k_dF, k_ip, k_in, if_true, if_false, ne_eq, not_true_eq_false, not_false_eq_true, Int.reduceAdd, zup_a, zup_e, zup_j, z32_id, k_ic, k_is2, k_il2, k_al1, k_gI, k_icge, k_al0, k_gR, k_ild, k_ildS, k_ildW, k_ifeq, k_icne, k_rz, k_inc2, k_goto, e123_0, e123_1, e123_3, e123_4, e123_7, e123_10, e123_11, e123_14, e123_15, e123_16, e123_19, e123_20, e123_23, e123_24, e123_25, e123_26, e123_29, e123_32, e123_33, e123_34, e123_37, e123_40, e123_41, c1, c2, decide_true, Bool.and_self]
      · simp (disch := first | assumption | exact zrm0 | exact zrm1 _ | exact zrm2 _ _ | exact zrm3 _ _ _ | exact zrm4 _ _ _ _ | omega) only [m123, ↓k_dp, ↓k_dn, k_dp, k_dn, k_dT, k_dF, k_ip, k_in, if_true, if_false, ne_eq, not_true_eq_false, not_false_eq_true, Int.reduceAdd, zup_a, zup_e, zup_j, z32_id, k_ic, k_is2, k_il2, k_al1, k_gI, k_icge, k_al0, k_gR, k_ild, k_ildS, k_ildW, k_ifeq, k_icne, k_rz, k_inc2, k_goto, e123_0, e123_1, e123_3, e123_4, e123_7, e123_10, e123_11, e123_14, e123_15, e123_16, e123_19, e123_20, e123_23, e123_24, e123_25, e123_26, e123_29, e123_32, e123_33, e123_34, e123_37, e123_40, e123_41, c1, c2, decide_false, Bool.and_false, Bool.false_eq_true]
        exact s_wasPut0 d a x0 l x1 M g2 n (k + 1) (by omega) (by omega)
theorem s_wasPutToday (d : Nat) (a x0 l x1 : Int) (M : zM) (hG : okG (zvG M l)) : zEm true (d + 1) 123 [(26, a, x0), (28, l, x1)] M = some ((0, if sPut (zvS M a) (zvG M l) = true then 1 else 0, 0), M) := by
  obtain ⟨-, -, ⟨g1, g2⟩, -⟩ := okG_M hG
  unfold sPut
  simp (disch := omega) only [zvG_0, zvS_0]
  rw [← s_wasPut0 d a x0 l x1 M g2 (M l 8).toNat 0 (by omega) (Int.le_refl _)]
  simp (disch := first | assumption | exact zrm0 | exact zrm1 _ | exact zrm2 _ _ | exact zrm3 _ _ _ | exact zrm4 _ _ _ _ | omega) only [m123, ↓k_dp, ↓k_dn, k_dp, k_dn, k_dT, k_dF, k_ip, k_in, if_true, if_false, ne_eq, not_true_eq_false, not_false_eq_true, Int.reduceAdd, zup_a, zup_e, zup_j, z32_id, k_ic, k_is2, k_il2, k_al1, k_gI, k_icge, k_al0, k_gR, k_ild, k_ildS, k_ildW, k_ifeq, k_icne, k_rz, k_inc2, k_goto, e123_0, e123_1, e123_3, e123_4, e123_7, e123_10, e123_11, e123_14, e123_15, e123_16, e123_19, e123_20, e123_23, e123_24, e123_25, e123_26, e123_29, e123_32, e123_33, e123_34, e123_37, e123_40, e123_41]
theorem s_grantTo (d : Nat) (l x1 q y s y2 : Int) (M : zM) (q0 : 0 ≤ q) (q1 : q < 5) (s0 : 0 ≤ s) (s1 : s < 5) : zEm true (d + 1) 157 [(28, l, x1), (0, q, y), (0, s, y2)] M = some ((0, zvG M l 5 (q * 5 + s), 0), M) := by
  rw [zvG_5 (by omega) (by omega)]
  simp (disch := first | assumption | exact zrm0 | exact zrm1 _ | exact zrm2 _ _ | exact zrm3 _ _ _ | exact zrm4 _ _ _ _ | omega) only [m157, ↓k_dp, ↓k_dn, k_dp, k_dn, k_dT, k_dF, k_ip, k_in, if_true, if_false, ne_eq, not_true_eq_false, not_false_eq_true, Int.reduceAdd, zup_a, zup_e, zup_j, z32_id, k_il1, k_ic, k_imul, k_il2, k_iadd, k_is3, k_il3, k_iflt, k_al0, k_gR, k_len, k_icge, k_ild, k_ildS, k_ildW, k_goto, k_ri, e157_0, e157_1, e157_2, e157_3, e157_4, e157_5, e157_6, e157_7, e157_10, e157_11, e157_12, e157_15, e157_16, e157_19, e157_20, e157_23, e157_24, e157_25, e157_28, e157_29]
theorem s_grantIrons (d : Nat) (a x0 l x1 q y : Int) (M : zM) (ha : 0 ≤ a) (sep : l + 7 ≤ a ∨ a + 9 ≤ l) (hG : okG (zvG M l)) (q0 : 0 ≤ q) (q1 : q < 5) : zEm true (d + 2) 130 [(26, a, x0), (28, l, x1), (0, q, y)] M = some ((98, 0, 0), zput M a (tGrant (zvS M a) (zvG M l) q)) := by
  obtain ⟨⟨g6, g6'⟩, ⟨g1, g2⟩, -, -, -, -, gh, -, -⟩ := okG_M hG
  have hl := zfor (ph := true) (d := d + 1) (j := 130) (pc := 2) (fun h T => zup T 1 h (sMin 20 (z32 (T 1 h + zvG M l 5 (q * 5 + zvG M l 4 h))))) (fun h _ => 0 ≤ h) (fun h _ => [(26, a, x0), (28, l, x1), (0, q, y), (0, h, 0)]) (fun T => zput M a T) (M l 7)
    (fun k b hk hp => ⟨by
      obtain ⟨h1, h2⟩ := gh k hp hk
      rw [e130_2, zvG_4 hp (by omega) hk]
      unfold sMin
      simp (disch := first | assumption | exact zrm0 | exact zrm1 _ | exact zrm2 _ _ | exact zrm3 _ _ _ | exact zrm4 _ _ _ _ | omega) only [m130, ↓k_dp, ↓k_dn, k_dp, k_dn, k_dT, k_dF, k_ip, k_in, if_true, if_false, ne_eq, not_true_eq_false, not_false_eq_true, Int.reduceAdd, zup_a, zup_e, zup_j, z32_id, k_ic, k_is3, k_il3, k_al1, k_gI, k_icge, k_al0, k_gR, k_ild, k_ildS, k_ildW, k_il2, k_v3r, k_iadd, k_min, k_ist, k_inc3, k_goto, k_rv, zb0_some, zb1_some, e130_0, e130_1, e130_3, e130_4, e130_7, e130_10, e130_11, e130_14, e130_15, e130_17, e130_18, e130_21, e130_22, e130_23, e130_24, e130_25, e130_26, e130_29, e130_30, e130_31, e130_34, e130_35, e130_38, e130_39, e130_42, e130_45, s_grantTo, zput_o, zput_1, zput_u1, zvG_puto], by omega⟩) (M l 7).toNat 0 (zvS M a) (by omega) (Int.le_refl _)
  have h2 := hl.1
  rw [zput_self] at h2
  simp (disch := first | assumption | exact zrm0 | exact zrm1 _ | exact zrm2 _ _ | exact zrm3 _ _ _ | exact zrm4 _ _ _ _ | omega) only [m130, ↓k_dp, ↓k_dn, k_dp, k_dn, k_dT, k_dF, k_ip, k_in, if_true, if_false, ne_eq, not_true_eq_false, not_false_eq_true, Int.reduceAdd, zup_a, zup_e, zup_j, z32_id, k_ic, k_is3, k_il3, k_al1, k_gI, k_icge, k_al0, k_gR, k_ild, k_ildS, k_ildW, k_il2, k_v3r, k_iadd, k_min, k_ist, k_inc3, k_goto, k_rv, zb0_some, zb1_some, e130_0, e130_1, e130_3, e130_4, e130_7, e130_10, e130_11, e130_14, e130_15, e130_17, e130_18, e130_21, e130_22, e130_23, e130_24, e130_25, e130_26, e130_29, e130_30, e130_31, e130_34, e130_35, e130_38, e130_39, e130_42, e130_45]
  rw [h2]
  unfold tGrant
  simp (disch := omega) only [zvG_0]
  simp (disch := first | assumption | exact zrm0 | exact zrm1 _ | exact zrm2 _ _ | exact zrm3 _ _ _ | exact zrm4 _ _ _ _ | omega) only [m130, ↓k_dp, ↓k_dn, k_dp, k_dn, k_dT, k_dF, k_ip, k_in, if_true, if_false, ne_eq, not_true_eq_false, not_false_eq_true, Int.reduceAdd, zup_a, zup_e, zup_j, z32_id, k_ic, k_is3, k_il3, k_al1, k_gI, k_icge, k_al0, k_gR, k_ild, k_ildS, k_ildW, k_il2, k_v3r, k_iadd, k_min, k_ist, k_inc3, k_goto, k_rv, zb0_some, zb1_some, e130_0, e130_1, e130_2, e130_3, e130_4, e130_7, e130_10, e130_11, e130_14, e130_15, e130_17, e130_18, e130_21, e130_22, e130_23, e130_24, e130_25, e130_26, e130_29, e130_30, e130_31, e130_34, e130_35, e130_38, e130_39, e130_42, e130_45, zput_o]
