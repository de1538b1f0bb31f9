/-! questions that change nothing -/
def zPairQ (M : zM) (cc : zO) (rc : zM → zO) : Prop := ∃ v, cc = some ((0, v, 0), M) ∧ rc M = some ((0, v, 0), zup M 197 0 0)
theorem relE_n {M : zM} (hE : relE M) : M 199 77 = M 37 8 ∧ M 199 76 = M 37 9 ∧ M 199 75 = M 37 10 ∧ (∀ h, 0 ≤ h → h < 10 → M 199 (81 + h) = M 38 h) ∧ (∀ h, 0 ≤ h → h < 10 → M 199 (91 + h) = M 39 h) ∧ (∀ q, 0 ≤ q → q < 5 → M 199 (101 + q) = M 40 q) ∧ (∀ q, 0 ≤ q → q < 5 → M 199 (106 + q) = M 41 q) ∧ (∀ q, 0 ≤ q → q < 5 → M 199 (111 + q) = M 42 q) ∧ (∀ q, 0 ≤ q → q < 5 → M 199 (116 + q) = M 43 q) ∧ (∀ q, 0 ≤ q → q < 5 → M 199 (121 + q) = M 44 q) ∧ (∀ w, 0 ≤ w → w < 2 → M 199 (79 + w) = M 45 w) := by
  have e : ∀ i j, zrS M i j = zvS M 37 i j := fun i j => by rw [hE.1]
  refine ⟨?_, ?_, ?_, fun h h0 h1 => ?_, fun h h0 h1 => ?_, fun h h0 h1 => ?_, fun h h0 h1 => ?_, fun h h0 h1 => ?_, fun h h0 h1 => ?_, fun h h0 h1 => ?_, fun h h0 h1 => ?_⟩
  · have := e 0 8; rwa [zrS_08, zvS_0 (by omega) (by omega)] at this
  · have := e 0 9; rwa [zrS_09, zvS_0 (by omega) (by omega)] at this
  · have := e 0 10; rwa [zrS_0t, zvS_0 (by omega) (by omega)] at this
  · have := e 1 h; rwa [zrS_1 h0 h1, zvS_1 h0 h1] at this
  · have := e 2 h; rwa [zrS_2 h0 h1, zvS_2 h0 h1] at this
  · have := e 3 h; rwa [zrS_3 h0 h1, zvS_3 h0 h1] at this
  · have := e 4 h; rwa [zrS_4 h0 h1, zvS_4 h0 h1] at this
  · have := e 5 h; rwa [zrS_5 h0 h1, zvS_5 h0 h1] at this
  · have := e 6 h; rwa [zrS_6 h0 h1, zvS_6 h0 h1] at this
  · have := e 7 h; rwa [zrS_7 h0 h1, zvS_7 h0 h1] at this
  · have := e 8 h; rwa [zrS_8 h0 h1, zvS_8 h0 h1] at this
theorem relC_v {M : zM} (hC : relC M) : (∀ h, 0 ≤ h → h < 10 → h < M 30 7 → M 199 (9 + h) = M 34 h) ∧ (∀ k, 0 ≤ k → k < 25 → M 199 (50 + k) = M 35 k) ∧ (∀ w, 0 ≤ w → w < 2 → M 199 (7 + w) = M 36 w) := by
  have e : ∀ i j, zrG M i j = zvG M 30 i j := fun i j => by rw [hC.1]
  have n1 := (relC_n hC).2.1
  refine ⟨fun h h0 h1 h2 => ?_, fun h h0 h1 => ?_, fun h h0 h1 => ?_⟩
  · have := e 4 h; rwa [zrG_4 h0 h1 (by rw [n1]; exact h2), zvG_4 h0 h1 h2] at this
  · have := e 5 h; rwa [zrG_5 h0 h1, zvG_5 h0 h1] at this
  · have := e 6 h; rwa [zrG_6 h0 h1, zvG_6 h0 h1] at this
theorem rT_isHand (d : Nat) (x0 h y v : Int) (M : zM) (g1 : 0 ≤ M 199 1) (g2 : M 199 1 ≤ 10) : zEm true (d + 2) 205 [(30, 197, x0), (0, h, y)] (zup M 197 0 v) = some ((0, if 0 ≤ h ∧ h < M 199 1 then 1 else 0, 0), zup M 197 0 v) := by
  have e : zup M 197 0 v 199 1 = M 199 1 := zup_a (by omega)
  have := r_isHand d x0 h y (zup M 197 0 v) (by rw [e]; exact g1) (by rw [e]; exact g2)
  rwa [e] at this
theorem rT_isQuestion (d : Nat) (x0 h y v : Int) (M : zM) (g1 : 0 ≤ M 199 2) (g2 : M 199 2 ≤ 5) : zEm true (d + 2) 206 [(30, 197, x0), (0, h, y)] (zup M 197 0 v) = some ((0, if 0 ≤ h ∧ h < M 199 2 then 1 else 0, 0), zup M 197 0 v) := by
  have e : zup M 197 0 v 199 2 = M 199 2 := zup_a (by omega)
  have := r_isQuestion d x0 h y (zup M 197 0 v) (by rw [e]; exact g1) (by rw [e]; exact g2)
  rwa [e] at this
theorem rT_isStreet (d : Nat) (x0 h y v : Int) (M : zM) (g1 : 0 ≤ M 199 0) (g2 : M 199 0 ≤ 5) : zEm true (d + 2) 207 [(30, 197, x0), (0, h, y)] (zup M 197 0 v) = some ((0, if 0 ≤ h ∧ h < M 199 0 then 1 else 0, 0), zup M 197 0 v) := by
  have e : zup M 197 0 v 199 0 = M 199 0 := zup_a (by omega)
  have := r_isStreet d x0 h y (zup M 197 0 v) (by rw [e]; exact g1) (by rw [e]; exact g2)
  rwa [e] at this
theorem relT {M : zM} {v : Int} (hC : relC M) (hE : relE M) : okS (zrS (zup M 197 0 v)) ∧ okG (zrG (zup M 197 0 v)) := by
  rw [rT_S, rT_G, hE.1, hC.1]
  exact ⟨hE.2.1.1, hC.2⟩
theorem m6 (ph : Bool) (d : Nat) (a x0 p0 y0 p1 y1 : Int) (M : zM) : zEm ph (d + 1) 6 [(29, a, x0), (0, p0, y0), (0, p1, y1)] M = zEv ph d 6 0 [(29, a, x0), (0, p0, y0), (0, p1, y1)] [] M := rfl
theorem e6_0 (ph : Bool) (d : Nat) (L st : List zV) (M : zM) : zEv ph d 6 0 L st M = zcont ph d 6 (zstep ph (zEm ph d) 4 1 0 [0] L st M) := zEv_step rfl
theorem e6_1 (ph : Bool) (d : Nat) (L st : List zV) (M : zM) : zEv ph d 6 1 L st M = zcont ph d 6 (zstep ph (zEm ph d) 2 2 0 [1] L st M) := zEv_step rfl
theorem e6_2 (ph : Bool) (d : Nat) (L st : List zV) (M : zM) : zEv ph d 6 2 L st M = zcont ph d 6 (zstep ph (zEm ph d) 70 5 46 [2, 1, 29] L st M) := zEv_step rfl
theorem e6_5 (ph : Bool) (d : Nat) (L st : List zV) (M : zM) : zEv ph d 6 5 L st M = zcont ph d 6 (zstep ph (zEm ph d) 40 8 16 [] L st M) := zEv_step rfl
theorem e6_8 (ph : Bool) (d : Nat) (L st : List zV) (M : zM) : zEv ph d 6 8 L st M = zcont ph d 6 (zstep ph (zEm ph d) 4 9 0 [0] L st M) := zEv_step rfl
theorem e6_9 (ph : Bool) (d : Nat) (L st : List zV) (M : zM) : zEv ph d 6 9 L st M = zcont ph d 6 (zstep ph (zEm ph d) 2 10 0 [2] L st M) := zEv_step rfl
theorem e6_10 (ph : Bool) (d : Nat) (L st : List zV) (M : zM) : zEv ph d 6 10 L st M = zcont ph d 6 (zstep ph (zEm ph d) 70 13 47 [2, 1, 29] L st M) := zEv_step rfl
theorem e6_13 (ph : Bool) (d : Nat) (L st : List zV) (M : zM) : zEv ph d 6 13 L st M = zcont ph d 6 (zstep ph (zEm ph d) 41 16 18 [] L st M) := zEv_step rfl
theorem e6_16 (ph : Bool) (d : Nat) (L st : List zV) (M : zM) : zEv ph d 6 16 L st M = zcont ph d 6 (zstep ph (zEm ph d) 0 17 0 [-1] L st M) := zEv_step rfl
theorem e6_17 (ph : Bool) (d : Nat) (L st : List zV) (M : zM) : zEv ph d 6 17 L st M = zcont ph d 6 (zstep ph (zEm ph d) 80 18 0 [] L st M) := zEv_step rfl
theorem e6_18 (ph : Bool) (d : Nat) (L st : List zV) (M : zM) : zEv ph d 6 18 L st M = zcont ph d 6 (zstep ph (zEm ph d) 4 19 0 [0] L st M) := zEv_step rfl
theorem e6_19 (ph : Bool) (d : Nat) (L st : List zV) (M : zM) : zEv ph d 6 19 L st M = zcont ph d 6 (zstep ph (zEm ph d) 62 22 0 [29, 3, 37, 26, 0] L st M) := zEv_step rfl
theorem e6_22 (ph : Bool) (d : Nat) (L st : List zV) (M : zM) : zEv ph d 6 22 L st M = zcont ph d 6 (zstep ph (zEm ph d) 2 23 0 [1] L st M) := zEv_step rfl
theorem e6_23 (ph : Bool) (d : Nat) (L st : List zV) (M : zM) : zEv ph d 6 23 L st M = zcont ph d 6 (zstep ph (zEm ph d) 2 24 0 [2] L st M) := zEv_step rfl
theorem e6_24 (ph : Bool) (d : Nat) (L st : List zV) (M : zM) : zEv ph d 6 24 L st M = zcont ph d 6 (zstep ph (zEm ph d) 70 27 117 [3, 1, 26] L st M) := zEv_step rfl
theorem e6_27 (ph : Bool) (d : Nat) (L st : List zV) (M : zM) : zEv ph d 6 27 L st M = zcont ph d 6 (zstep ph (zEm ph d) 80 28 0 [] L st M) := zEv_step rfl
theorem m8 (ph : Bool) (d : Nat) (a x0 p0 y0 p1 y1 : Int) (M : zM) : zEm ph (d + 1) 8 [(29, a, x0), (0, p0, y0), (0, p1, y1)] M = zEv ph d 8 0 [(29, a, x0), (0, p0, y0), (0, p1, y1)] [] M := rfl
theorem e8_0 (ph : Bool) (d : Nat) (L st : List zV) (M : zM) : zEv ph d 8 0 L st M = zcont ph d 8 (zstep ph (zEm ph d) 4 1 0 [0] L st M) := zEv_step rfl
theorem e8_1 (ph : Bool) (d : Nat) (L st : List zV) (M : zM) : zEv ph d 8 1 L st M = zcont ph d 8 (zstep ph (zEm ph d) 2 2 0 [1] L st M) := zEv_step rfl
theorem e8_2 (ph : Bool) (d : Nat) (L st : List zV) (M : zM) : zEv ph d 8 2 L st M = zcont ph d 8 (zstep ph (zEm ph d) 70 5 47 [2, 1, 29] L st M) := zEv_step rfl
theorem e8_5 (ph : Bool) (d : Nat) (L st : List zV) (M : zM) : zEv ph d 8 5 L st M = zcont ph d 8 (zstep ph (zEm ph d) 40 8 23 [] L st M) := zEv_step rfl
theorem e8_8 (ph : Bool) (d : Nat) (L st : List zV) (M : zM) : zEv ph d 8 8 L st M = zcont ph d 8 (zstep ph (zEm ph d) 2 9 0 [2] L st M) := zEv_step rfl
theorem e8_9 (ph : Bool) (d : Nat) (L st : List zV) (M : zM) : zEv ph d 8 9 L st M = zcont ph d 8 (zstep ph (zEm ph d) 42 12 23 [] L st M) := zEv_step rfl
theorem e8_12 (ph : Bool) (d : Nat) (L st : List zV) (M : zM) : zEv ph d 8 12 L st M = zcont ph d 8 (zstep ph (zEm ph d) 2 13 0 [2] L st M) := zEv_step rfl
theorem e8_13 (ph : Bool) (d : Nat) (L st : List zV) (M : zM) : zEv ph d 8 13 L st M = zcont ph d 8 (zstep ph (zEm ph d) 4 14 0 [0] L st M) := zEv_step rfl
theorem e8_14 (ph : Bool) (d : Nat) (L st : List zV) (M : zM) : zEv ph d 8 14 L st M = zcont ph d 8 (zstep ph (zEm ph d) 62 17 0 [29, 2, 30, 28, 0] L st M) := zEv_step rfl
theorem e8_17 (ph : Bool) (d : Nat) (L st : List zV) (M : zM) : zEv ph d 8 17 L st M = zcont ph d 8 (zstep ph (zEm ph d) 60 20 0 [28, 6] L st M) := zEv_step rfl
theorem e8_20 (ph : Bool) (d : Nat) (L st : List zV) (M : zM) : zEv ph d 8 20 L st M = zcont ph d 8 (zstep ph (zEm ph d) 48 23 25 [] L st M) := zEv_step rfl
theorem e8_23 (ph : Bool) (d : Nat) (L st : List zV) (M : zM) : zEv ph d 8 23 L st M = zcont ph d 8 (zstep ph (zEm ph d) 0 24 0 [-1] L st M) := zEv_step rfl
theorem e8_24 (ph : Bool) (d : Nat) (L st : List zV) (M : zM) : zEv ph d 8 24 L st M = zcont ph d 8 (zstep ph (zEm ph d) 80 25 0 [] L st M) := zEv_step rfl
theorem e8_25 (ph : Bool) (d : Nat) (L st : List zV) (M : zM) : zEv ph d 8 25 L st M = zcont ph d 8 (zstep ph (zEm ph d) 4 26 0 [0] L st M) := zEv_step rfl
theorem e8_26 (ph : Bool) (d : Nat) (L st : List zV) (M : zM) : zEv ph d 8 26 L st M = zcont ph d 8 (zstep ph (zEm ph d) 62 29 0 [29, 2, 30, 28, 0] L st M) := zEv_step rfl
theorem e8_29 (ph : Bool) (d : Nat) (L st : List zV) (M : zM) : zEv ph d 8 29 L st M = zcont ph d 8 (zstep ph (zEm ph d) 2 30 0 [1] L st M) := zEv_step rfl
theorem e8_30 (ph : Bool) (d : Nat) (L st : List zV) (M : zM) : zEv ph d 8 30 L st M = zcont ph d 8 (zstep ph (zEm ph d) 2 31 0 [2] L st M) := zEv_step rfl
theorem e8_31 (ph : Bool) (d : Nat) (L st : List zV) (M : zM) : zEv ph d 8 31 L st M = zcont ph d 8 (zstep ph (zEm ph d) 70 34 157 [3, 1, 28] L st M) := zEv_step rfl
theorem e8_34 (ph : Bool) (d : Nat) (L st : List zV) (M : zM) : zEv ph d 8 34 L st M = zcont ph d 8 (zstep ph (zEm ph d) 80 35 0 [] L st M) := zEv_step rfl
theorem m9 (ph : Bool) (d : Nat) (a x0 p0 y0 p1 y1 : Int) (M : zM) : zEm ph (d + 1) 9 [(29, a, x0), (0, p0, y0), (0, p1, y1)] M = zEv ph d 9 0 [(29, a, x0), (0, p0, y0), (0, p1, y1)] [] M := rfl
theorem e9_0 (ph : Bool) (d : Nat) (L st : List zV) (M : zM) : zEv ph d 9 0 L st M = zcont ph d 9 (zstep ph (zEm ph d) 2 1 0 [1] L st M) := zEv_step rfl
theorem e9_1 (ph : Bool) (d : Nat) (L st : List zV) (M : zM) : zEv ph d 9 1 L st M = zcont ph d 9 (zstep ph (zEm ph d) 70 4 48 [1, 1, -1] L st M) := zEv_step rfl
theorem e9_4 (ph : Bool) (d : Nat) (L st : List zV) (M : zM) : zEv ph d 9 4 L st M = zcont ph d 9 (zstep ph (zEm ph d) 41 7 9 [] L st M) := zEv_step rfl
theorem e9_7 (ph : Bool) (d : Nat) (L st : List zV) (M : zM) : zEv ph d 9 7 L st M = zcont ph d 9 (zstep ph (zEm ph d) 0 8 0 [-1] L st M) := zEv_step rfl
theorem e9_8 (ph : Bool) (d : Nat) (L st : List zV) (M : zM) : zEv ph d 9 8 L st M = zcont ph d 9 (zstep ph (zEm ph d) 80 9 0 [] L st M) := zEv_step rfl
theorem e9_9 (ph : Bool) (d : Nat) (L st : List zV) (M : zM) : zEv ph d 9 9 L st M = zcont ph d 9 (zstep ph (zEm ph d) 2 10 0 [2] L st M) := zEv_step rfl
theorem e9_10 (ph : Bool) (d : Nat) (a y : Int) (L st : List zV) (M : zM) : zEv ph d 9 10 L ((0, a, y) :: st) M = dite (a = 0) (fun _ => zEv ph d 9 36 L st M) (fun _ => dite (a = 1) (fun _ => zEv ph d 9 46 L st M) (fun _ => zEv ph d 9 56 L st M)) := (zEv_step (op := 57) (nx := 36) (tg := 56) (r := [0, 36, 1, 46]) rfl).trans (zls2 (fun q => zEv ph d 9 q L st M))
theorem e9_36 (ph : Bool) (d : Nat) (L st : List zV) (M : zM) : zEv ph d 9 36 L st M = zcont ph d 9 (zstep ph (zEm ph d) 4 37 0 [0] L st M) := zEv_step rfl
theorem e9_37 (ph : Bool) (d : Nat) (L st : List zV) (M : zM) : zEv ph d 9 37 L st M = zcont ph d 9 (zstep ph (zEm ph d) 62 40 0 [29, 3, 37, 26, 0] L st M) := zEv_step rfl
theorem e9_40 (ph : Bool) (d : Nat) (L st : List zV) (M : zM) : zEv ph d 9 40 L st M = zcont ph d 9 (zstep ph (zEm ph d) 62 43 0 [26, 7, 8, 10, 2] L st M) := zEv_step rfl
theorem e9_43 (ph : Bool) (d : Nat) (L st : List zV) (M : zM) : zEv ph d 9 43 L st M = zcont ph d 9 (zstep ph (zEm ph d) 2 44 0 [1] L st M) := zEv_step rfl
theorem e9_44 (ph : Bool) (d : Nat) (L st : List zV) (M : zM) : zEv ph d 9 44 L st M = zcont ph d 9 (zstep ph (zEm ph d) 85 45 0 [] L st M) := zEv_step rfl
theorem e9_45 (ph : Bool) (d : Nat) (L st : List zV) (M : zM) : zEv ph d 9 45 L st M = zcont ph d 9 (zstep ph (zEm ph d) 80 46 0 [] L st M) := zEv_step rfl
theorem e9_46 (ph : Bool) (d : Nat) (L st : List zV) (M : zM) : zEv ph d 9 46 L st M = zcont ph d 9 (zstep ph (zEm ph d) 4 47 0 [0] L st M) := zEv_step rfl
theorem e9_47 (ph : Bool) (d : Nat) (L st : List zV) (M : zM) : zEv ph d 9 47 L st M = zcont ph d 9 (zstep ph (zEm ph d) 62 50 0 [29, 2, 30, 28, 0] L st M) := zEv_step rfl
theorem e9_50 (ph : Bool) (d : Nat) (L st : List zV) (M : zM) : zEv ph d 9 50 L st M = zcont ph d 9 (zstep ph (zEm ph d) 62 53 0 [28, 5, 6, 10, 2] L st M) := zEv_step rfl
theorem e9_53 (ph : Bool) (d : Nat) (L st : List zV) (M : zM) : zEv ph d 9 53 L st M = zcont ph d 9 (zstep ph (zEm ph d) 2 54 0 [1] L st M) := zEv_step rfl
theorem e9_54 (ph : Bool) (d : Nat) (L st : List zV) (M : zM) : zEv ph d 9 54 L st M = zcont ph d 9 (zstep ph (zEm ph d) 85 55 0 [] L st M) := zEv_step rfl
theorem e9_55 (ph : Bool) (d : Nat) (L st : List zV) (M : zM) : zEv ph d 9 55 L st M = zcont ph d 9 (zstep ph (zEm ph d) 80 56 0 [] L st M) := zEv_step rfl
theorem e9_56 (ph : Bool) (d : Nat) (L st : List zV) (M : zM) : zEv ph d 9 56 L st M = zcont ph d 9 (zstep ph (zEm ph d) 0 57 0 [-1] L st M) := zEv_step rfl
theorem e9_57 (ph : Bool) (d : Nat) (L st : List zV) (M : zM) : zEv ph d 9 57 L st M = zcont ph d 9 (zstep ph (zEm ph d) 80 58 0 [] L st M) := zEv_step rfl
theorem m20 (ph : Bool) (d : Nat) (a x0 p0 y0 p1 y1 : Int) (M : zM) : zEm ph (d + 1) 20 [(29, a, x0), (0, p0, y0), (0, p1, y1)] M = zEv ph d 20 0 [(29, a, x0), (0, p0, y0), (0, p1, y1), (3, 0, 0)] [] M := rfl
theorem e20_0 (ph : Bool) (d : Nat) (L st : List zV) (M : zM) : zEv ph d 20 0 L st M = zcont ph d 20 (zstep ph (zEm ph d) 4 1 0 [0] L st M) := zEv_step rfl
theorem e20_1 (ph : Bool) (d : Nat) (L st : List zV) (M : zM) : zEv ph d 20 1 L st M = zcont ph d 20 (zstep ph (zEm ph d) 2 2 0 [1] L st M) := zEv_step rfl
theorem e20_2 (ph : Bool) (d : Nat) (L st : List zV) (M : zM) : zEv ph d 20 2 L st M = zcont ph d 20 (zstep ph (zEm ph d) 70 5 47 [2, 1, 29] L st M) := zEv_step rfl
theorem e20_5 (ph : Bool) (d : Nat) (L st : List zV) (M : zM) : zEv ph d 20 5 L st M = zcont ph d 20 (zstep ph (zEm ph d) 40 8 15 [] L st M) := zEv_step rfl
theorem e20_8 (ph : Bool) (d : Nat) (L st : List zV) (M : zM) : zEv ph d 20 8 L st M = zcont ph d 20 (zstep ph (zEm ph d) 2 9 0 [2] L st M) := zEv_step rfl
theorem e20_9 (ph : Bool) (d : Nat) (L st : List zV) (M : zM) : zEv ph d 20 9 L st M = zcont ph d 20 (zstep ph (zEm ph d) 70 12 48 [1, 1, -1] L st M) := zEv_step rfl
theorem e20_12 (ph : Bool) (d : Nat) (L st : List zV) (M : zM) : zEv ph d 20 12 L st M = zcont ph d 20 (zstep ph (zEm ph d) 41 15 17 [] L st M) := zEv_step rfl
theorem e20_15 (ph : Bool) (d : Nat) (L st : List zV) (M : zM) : zEv ph d 20 15 L st M = zcont ph d 20 (zstep ph (zEm ph d) 0 16 0 [-1] L st M) := zEv_step rfl
theorem e20_16 (ph : Bool) (d : Nat) (L st : List zV) (M : zM) : zEv ph d 20 16 L st M = zcont ph d 20 (zstep ph (zEm ph d) 80 17 0 [] L st M) := zEv_step rfl
theorem e20_17 (ph : Bool) (d : Nat) (L st : List zV) (M : zM) : zEv ph d 20 17 L st M = zcont ph d 20 (zstep ph (zEm ph d) 2 18 0 [2] L st M) := zEv_step rfl
theorem e20_18 (ph : Bool) (d : Nat) (L st : List zV) (M : zM) : zEv ph d 20 18 L st M = zcont ph d 20 (zstep ph (zEm ph d) 41 21 33 [] L st M) := zEv_step rfl
theorem e20_21 (ph : Bool) (d : Nat) (L st : List zV) (M : zM) : zEv ph d 20 21 L st M = zcont ph d 20 (zstep ph (zEm ph d) 4 22 0 [0] L st M) := zEv_step rfl
theorem e20_22 (ph : Bool) (d : Nat) (L st : List zV) (M : zM) : zEv ph d 20 22 L st M = zcont ph d 20 (zstep ph (zEm ph d) 62 25 0 [29, 3, 37, 26, 0] L st M) := zEv_step rfl
theorem e20_25 (ph : Bool) (d : Nat) (L st : List zV) (M : zM) : zEv ph d 20 25 L st M = zcont ph d 20 (zstep ph (zEm ph d) 62 28 0 [26, 2, 3, 10, 5] L st M) := zEv_step rfl
theorem e20_28 (ph : Bool) (d : Nat) (L st : List zV) (M : zM) : zEv ph d 20 28 L st M = zcont ph d 20 (zstep ph (zEm ph d) 2 29 0 [1] L st M) := zEv_step rfl
theorem e20_29 (ph : Bool) (d : Nat) (L st : List zV) (M : zM) : zEv ph d 20 29 L st M = zcont ph d 20 (zstep ph (zEm ph d) 85 30 0 [] L st M) := zEv_step rfl
theorem e20_30 (ph : Bool) (d : Nat) (L st : List zV) (M : zM) : zEv ph d 20 30 L st M = zcont ph d 20 (zstep ph (zEm ph d) 52 33 42 [] L st M) := zEv_step rfl
theorem e20_33 (ph : Bool) (d : Nat) (L st : List zV) (M : zM) : zEv ph d 20 33 L st M = zcont ph d 20 (zstep ph (zEm ph d) 4 34 0 [0] L st M) := zEv_step rfl
theorem e20_34 (ph : Bool) (d : Nat) (L st : List zV) (M : zM) : zEv ph d 20 34 L st M = zcont ph d 20 (zstep ph (zEm ph d) 62 37 0 [29, 3, 37, 26, 0] L st M) := zEv_step rfl
theorem e20_37 (ph : Bool) (d : Nat) (L st : List zV) (M : zM) : zEv ph d 20 37 L st M = zcont ph d 20 (zstep ph (zEm ph d) 62 40 0 [26, 3, 4, 10, 5] L st M) := zEv_step rfl
theorem e20_40 (ph : Bool) (d : Nat) (L st : List zV) (M : zM) : zEv ph d 20 40 L st M = zcont ph d 20 (zstep ph (zEm ph d) 2 41 0 [1] L st M) := zEv_step rfl
theorem e20_41 (ph : Bool) (d : Nat) (L st : List zV) (M : zM) : zEv ph d 20 41 L st M = zcont ph d 20 (zstep ph (zEm ph d) 85 42 0 [] L st M) := zEv_step rfl
theorem e20_42 (ph : Bool) (d : Nat) (L st : List zV) (M : zM) : zEv ph d 20 42 L st M = zcont ph d 20 (zstep ph (zEm ph d) 5 43 0 [3] L st M) := zEv_step rfl
theorem e20_43 (ph : Bool) (d : Nat) (L st : List zV) (M : zM) : zEv ph d 20 43 L st M = zcont ph d 20 (zstep ph (zEm ph d) 4 44 0 [0] L st M) := zEv_step rfl
theorem e20_44 (ph : Bool) (d : Nat) (L st : List zV) (M : zM) : zEv ph d 20 44 L st M = zcont ph d 20 (zstep ph (zEm ph d) 62 47 0 [29, 3, 37, 26, 0] L st M) := zEv_step rfl
theorem e20_47 (ph : Bool) (d : Nat) (L st : List zV) (M : zM) : zEv ph d 20 47 L st M = zcont ph d 20 (zstep ph (zEm ph d) 4 48 0 [0] L st M) := zEv_step rfl
theorem e20_48 (ph : Bool) (d : Nat) (L st : List zV) (M : zM) : zEv ph d 20 48 L st M = zcont ph d 20 (zstep ph (zEm ph d) 62 51 0 [29, 2, 30, 28, 0] L st M) := zEv_step rfl
theorem e20_51 (ph : Bool) (d : Nat) (L st : List zV) (M : zM) : zEv ph d 20 51 L st M = zcont ph d 20 (zstep ph (zEm ph d) 2 52 0 [3] L st M) := zEv_step rfl
theorem e20_52 (ph : Bool) (d : Nat) (L st : List zV) (M : zM) : zEv ph d 20 52 L st M = zcont ph d 20 (zstep ph (zEm ph d) 2 53 0 [2] L st M) := zEv_step rfl
theorem e20_53 (ph : Bool) (d : Nat) (L st : List zV) (M : zM) : zEv ph d 20 53 L st M = zcont ph d 20 (zstep ph (zEm ph d) 70 56 119 [4, 1, 26] L st M) := zEv_step rfl
theorem e20_56 (ph : Bool) (d : Nat) (L st : List zV) (M : zM) : zEv ph d 20 56 L st M = zcont ph d 20 (zstep ph (zEm ph d) 80 57 0 [] L st M) := zEv_step rfl
theorem m21 (ph : Bool) (d : Nat) (a x0 p0 y0 : Int) (M : zM) : zEm ph (d + 1) 21 [(29, a, x0), (0, p0, y0)] M = zEv ph d 21 0 [(29, a, x0), (0, p0, y0)] [] M := rfl
theorem e21_0 (ph : Bool) (d : Nat) (L st : List zV) (M : zM) : zEv ph d 21 0 L st M = zcont ph d 21 (zstep ph (zEm ph d) 4 1 0 [0] L st M) := zEv_step rfl
theorem e21_1 (ph : Bool) (d : Nat) (L st : List zV) (M : zM) : zEv ph d 21 1 L st M = zcont ph d 21 (zstep ph (zEm ph d) 2 2 0 [1] L st M) := zEv_step rfl
theorem e21_2 (ph : Bool) (d : Nat) (L st : List zV) (M : zM) : zEv ph d 21 2 L st M = zcont ph d 21 (zstep ph (zEm ph d) 70 5 47 [2, 1, 29] L st M) := zEv_step rfl
theorem e21_5 (ph : Bool) (d : Nat) (L st : List zV) (M : zM) : zEv ph d 21 5 L st M = zcont ph d 21 (zstep ph (zEm ph d) 41 8 10 [] L st M) := zEv_step rfl
theorem e21_8 (ph : Bool) (d : Nat) (L st : List zV) (M : zM) : zEv ph d 21 8 L st M = zcont ph d 21 (zstep ph (zEm ph d) 0 9 0 [-1] L st M) := zEv_step rfl
theorem e21_9 (ph : Bool) (d : Nat) (L st : List zV) (M : zM) : zEv ph d 21 9 L st M = zcont ph d 21 (zstep ph (zEm ph d) 80 10 0 [] L st M) := zEv_step rfl
theorem e21_10 (ph : Bool) (d : Nat) (L st : List zV) (M : zM) : zEv ph d 21 10 L st M = zcont ph d 21 (zstep ph (zEm ph d) 4 11 0 [0] L st M) := zEv_step rfl
theorem e21_11 (ph : Bool) (d : Nat) (L st : List zV) (M : zM) : zEv ph d 21 11 L st M = zcont ph d 21 (zstep ph (zEm ph d) 62 14 0 [29, 3, 37, 26, 0] L st M) := zEv_step rfl
theorem e21_14 (ph : Bool) (d : Nat) (L st : List zV) (M : zM) : zEv ph d 21 14 L st M = zcont ph d 21 (zstep ph (zEm ph d) 4 15 0 [0] L st M) := zEv_step rfl
theorem e21_15 (ph : Bool) (d : Nat) (L st : List zV) (M : zM) : zEv ph d 21 15 L st M = zcont ph d 21 (zstep ph (zEm ph d) 62 18 0 [29, 2, 30, 28, 0] L st M) := zEv_step rfl
theorem e21_18 (ph : Bool) (d : Nat) (L st : List zV) (M : zM) : zEv ph d 21 18 L st M = zcont ph d 21 (zstep ph (zEm ph d) 2 19 0 [1] L st M) := zEv_step rfl
theorem e21_19 (ph : Bool) (d : Nat) (L st : List zV) (M : zM) : zEv ph d 21 19 L st M = zcont ph d 21 (zstep ph (zEm ph d) 70 22 121 [3, 1, 26] L st M) := zEv_step rfl
theorem e21_22 (ph : Bool) (d : Nat) (L st : List zV) (M : zM) : zEv ph d 21 22 L st M = zcont ph d 21 (zstep ph (zEm ph d) 40 25 29 [] L st M) := zEv_step rfl
theorem e21_25 (ph : Bool) (d : Nat) (L st : List zV) (M : zM) : zEv ph d 21 25 L st M = zcont ph d 21 (zstep ph (zEm ph d) 0 26 0 [1] L st M) := zEv_step rfl
theorem e21_26 (ph : Bool) (d : Nat) (L st : List zV) (M : zM) : zEv ph d 21 26 L st M = zcont ph d 21 (zstep ph (zEm ph d) 52 29 30 [] L st M) := zEv_step rfl
theorem e21_29 (ph : Bool) (d : Nat) (L st : List zV) (M : zM) : zEv ph d 21 29 L st M = zcont ph d 21 (zstep ph (zEm ph d) 0 30 0 [0] L st M) := zEv_step rfl
theorem e21_30 (ph : Bool) (d : Nat) (L st : List zV) (M : zM) : zEv ph d 21 30 L st M = zcont ph d 21 (zstep ph (zEm ph d) 80 31 0 [] L st M) := zEv_step rfl
theorem m217 (ph : Bool) (d : Nat) (a x0 p0 y0 p1 y1 : Int) (M : zM) : zEm ph (d + 1) 217 [(30, a, x0), (0, p0, y0), (0, p1, y1)] M = zEv ph d 217 0 [(30, a, x0), (0, p0, y0), (0, p1, y1)] [] M := rfl
theorem e217_0 (ph : Bool) (d : Nat) (L st : List zV) (M : zM) : zEv ph d 217 0 L st M = zcont ph d 217 (zstep ph (zEm ph d) 4 1 0 [0] L st M) := zEv_step rfl
theorem e217_1 (ph : Bool) (d : Nat) (L st : List zV) (M : zM) : zEv ph d 217 1 L st M = zcont ph d 217 (zstep ph (zEm ph d) 0 2 0 [0] L st M) := zEv_step rfl
theorem e217_2 (ph : Bool) (d : Nat) (L st : List zV) (M : zM) : zEv ph d 217 2 L st M = zcont ph d 217 (zstep ph (zEm ph d) 65 5 0 [30, 0] L st M) := zEv_step rfl
theorem e217_5 (ph : Bool) (d : Nat) (L st : List zV) (M : zM) : zEv ph d 217 5 L st M = zcont ph d 217 (zstep ph (zEm ph d) 4 6 0 [0] L st M) := zEv_step rfl
theorem e217_6 (ph : Bool) (d : Nat) (L st : List zV) (M : zM) : zEv ph d 217 6 L st M = zcont ph d 217 (zstep ph (zEm ph d) 2 7 0 [1] L st M) := zEv_step rfl
theorem e217_7 (ph : Bool) (d : Nat) (L st : List zV) (M : zM) : zEv ph d 217 7 L st M = zcont ph d 217 (zstep ph (zEm ph d) 70 10 205 [2, 1, 30] L st M) := zEv_step rfl
theorem e217_10 (ph : Bool) (d : Nat) (L st : List zV) (M : zM) : zEv ph d 217 10 L st M = zcont ph d 217 (zstep ph (zEm ph d) 40 13 30 [] L st M) := zEv_step rfl
theorem e217_13 (ph : Bool) (d : Nat) (L st : List zV) (M : zM) : zEv ph d 217 13 L st M = zcont ph d 217 (zstep ph (zEm ph d) 4 14 0 [0] L st M) := zEv_step rfl
theorem e217_14 (ph : Bool) (d : Nat) (L st : List zV) (M : zM) : zEv ph d 217 14 L st M = zcont ph d 217 (zstep ph (zEm ph d) 2 15 0 [2] L st M) := zEv_step rfl
theorem e217_15 (ph : Bool) (d : Nat) (L st : List zV) (M : zM) : zEv ph d 217 15 L st M = zcont ph d 217 (zstep ph (zEm ph d) 70 18 206 [2, 1, 30] L st M) := zEv_step rfl
theorem e217_18 (ph : Bool) (d : Nat) (L st : List zV) (M : zM) : zEv ph d 217 18 L st M = zcont ph d 217 (zstep ph (zEm ph d) 40 21 30 [] L st M) := zEv_step rfl
theorem e217_21 (ph : Bool) (d : Nat) (L st : List zV) (M : zM) : zEv ph d 217 21 L st M = zcont ph d 217 (zstep ph (zEm ph d) 4 22 0 [0] L st M) := zEv_step rfl
theorem e217_22 (ph : Bool) (d : Nat) (L st : List zV) (M : zM) : zEv ph d 217 22 L st M = zcont ph d 217 (zstep ph (zEm ph d) 2 23 0 [1] L st M) := zEv_step rfl
theorem e217_23 (ph : Bool) (d : Nat) (L st : List zV) (M : zM) : zEv ph d 217 23 L st M = zcont ph d 217 (zstep ph (zEm ph d) 2 24 0 [2] L st M) := zEv_step rfl
theorem e217_24 (ph : Bool) (d : Nat) (L st : List zV) (M : zM) : zEv ph d 217 24 L st M = zcont ph d 217 (zstep ph (zEm ph d) 70 27 216 [3, 1, 30] L st M) := zEv_step rfl
theorem e217_27 (ph : Bool) (d : Nat) (L st : List zV) (M : zM) : zEv ph d 217 27 L st M = zcont ph d 217 (zstep ph (zEm ph d) 52 30 31 [] L st M) := zEv_step rfl
theorem e217_30 (ph : Bool) (d : Nat) (L st : List zV) (M : zM) : zEv ph d 217 30 L st M = zcont ph d 217 (zstep ph (zEm ph d) 0 31 0 [-1] L st M) := zEv_step rfl
theorem e217_31 (ph : Bool) (d : Nat) (L st : List zV) (M : zM) : zEv ph d 217 31 L st M = zcont ph d 217 (zstep ph (zEm ph d) 80 32 0 [] L st M) := zEv_step rfl
theorem m219 (ph : Bool) (d : Nat) (a x0 p0 y0 p1 y1 : Int) (M : zM) : zEm ph (d + 1) 219 [(30, a, x0), (0, p0, y0), (0, p1, y1)] M = zEv ph d 219 0 [(30, a, x0), (0, p0, y0), (0, p1, y1)] [] M := rfl
theorem e219_0 (ph : Bool) (d : Nat) (L st : List zV) (M : zM) : zEv ph d 219 0 L st M = zcont ph d 219 (zstep ph (zEm ph d) 4 1 0 [0] L st M) := zEv_step rfl
theorem e219_1 (ph : Bool) (d : Nat) (L st : List zV) (M : zM) : zEv ph d 219 1 L st M = zcont ph d 219 (zstep ph (zEm ph d) 0 2 0 [0] L st M) := zEv_step rfl
theorem e219_2 (ph : Bool) (d : Nat) (L st : List zV) (M : zM) : zEv ph d 219 2 L st M = zcont ph d 219 (zstep ph (zEm ph d) 65 5 0 [30, 0] L st M) := zEv_step rfl
theorem e219_5 (ph : Bool) (d : Nat) (L st : List zV) (M : zM) : zEv ph d 219 5 L st M = zcont ph d 219 (zstep ph (zEm ph d) 4 6 0 [0] L st M) := zEv_step rfl
theorem e219_6 (ph : Bool) (d : Nat) (L st : List zV) (M : zM) : zEv ph d 219 6 L st M = zcont ph d 219 (zstep ph (zEm ph d) 2 7 0 [1] L st M) := zEv_step rfl
theorem e219_7 (ph : Bool) (d : Nat) (L st : List zV) (M : zM) : zEv ph d 219 7 L st M = zcont ph d 219 (zstep ph (zEm ph d) 70 10 206 [2, 1, 30] L st M) := zEv_step rfl
theorem e219_10 (ph : Bool) (d : Nat) (L st : List zV) (M : zM) : zEv ph d 219 10 L st M = zcont ph d 219 (zstep ph (zEm ph d) 40 13 37 [] L st M) := zEv_step rfl
theorem e219_13 (ph : Bool) (d : Nat) (L st : List zV) (M : zM) : zEv ph d 219 13 L st M = zcont ph d 219 (zstep ph (zEm ph d) 4 14 0 [0] L st M) := zEv_step rfl
theorem e219_14 (ph : Bool) (d : Nat) (L st : List zV) (M : zM) : zEv ph d 219 14 L st M = zcont ph d 219 (zstep ph (zEm ph d) 2 15 0 [2] L st M) := zEv_step rfl
theorem e219_15 (ph : Bool) (d : Nat) (L st : List zV) (M : zM) : zEv ph d 219 15 L st M = zcont ph d 219 (zstep ph (zEm ph d) 70 18 207 [2, 1, 30] L st M) := zEv_step rfl
theorem e219_18 (ph : Bool) (d : Nat) (L st : List zV) (M : zM) : zEv ph d 219 18 L st M = zcont ph d 219 (zstep ph (zEm ph d) 40 21 37 [] L st M) := zEv_step rfl
theorem e219_21 (ph : Bool) (d : Nat) (L st : List zV) (M : zM) : zEv ph d 219 21 L st M = zcont ph d 219 (zstep ph (zEm ph d) 4 22 0 [0] L st M) := zEv_step rfl
theorem e219_22 (ph : Bool) (d : Nat) (L st : List zV) (M : zM) : zEv ph d 219 22 L st M = zcont ph d 219 (zstep ph (zEm ph d) 62 25 0 [30, 14, 2, 10, 368] L st M) := zEv_step rfl
theorem e219_25 (ph : Bool) (d : Nat) (L st : List zV) (M : zM) : zEv ph d 219 25 L st M = zcont ph d 219 (zstep ph (zEm ph d) 0 27 0 [50] L st M) := zEv_step rfl
theorem e219_27 (ph : Bool) (d : Nat) (L st : List zV) (M : zM) : zEv ph d 219 27 L st M = zcont ph d 219 (zstep ph (zEm ph d) 0 28 0 [5] L st M) := zEv_step rfl
theorem e219_28 (ph : Bool) (d : Nat) (L st : List zV) (M : zM) : zEv ph d 219 28 L st M = zcont ph d 219 (zstep ph (zEm ph d) 2 29 0 [1] L st M) := zEv_step rfl
theorem e219_29 (ph : Bool) (d : Nat) (L st : List zV) (M : zM) : zEv ph d 219 29 L st M = zcont ph d 219 (zstep ph (zEm ph d) 12 30 0 [] L st M) := zEv_step rfl
theorem e219_30 (ph : Bool) (d : Nat) (L st : List zV) (M : zM) : zEv ph d 219 30 L st M = zcont ph d 219 (zstep ph (zEm ph d) 10 31 0 [] L st M) := zEv_step rfl
theorem e219_31 (ph : Bool) (d : Nat) (L st : List zV) (M : zM) : zEv ph d 219 31 L st M = zcont ph d 219 (zstep ph (zEm ph d) 2 32 0 [2] L st M) := zEv_step rfl
theorem e219_32 (ph : Bool) (d : Nat) (L st : List zV) (M : zM) : zEv ph d 219 32 L st M = zcont ph d 219 (zstep ph (zEm ph d) 10 33 0 [] L st M) := zEv_step rfl
theorem e219_33 (ph : Bool) (d : Nat) (L st : List zV) (M : zM) : zEv ph d 219 33 L st M = zcont ph d 219 (zstep ph (zEm ph d) 85 34 0 [] L st M) := zEv_step rfl
theorem e219_34 (ph : Bool) (d : Nat) (L st : List zV) (M : zM) : zEv ph d 219 34 L st M = zcont ph d 219 (zstep ph (zEm ph d) 52 37 38 [] L st M) := zEv_step rfl
theorem e219_37 (ph : Bool) (d : Nat) (L st : List zV) (M : zM) : zEv ph d 219 37 L st M = zcont ph d 219 (zstep ph (zEm ph d) 0 38 0 [-1] L st M) := zEv_step rfl
theorem e219_38 (ph : Bool) (d : Nat) (L st : List zV) (M : zM) : zEv ph d 219 38 L st M = zcont ph d 219 (zstep ph (zEm ph d) 80 39 0 [] L st M) := zEv_step rfl
theorem m220 (ph : Bool) (d : Nat) (a x0 p0 y0 p1 y1 : Int) (M : zM) : zEm ph (d + 1) 220 [(30, a, x0), (0, p0, y0), (0, p1, y1)] M = zEv ph d 220 0 [(30, a, x0), (0, p0, y0), (0, p1, y1)] [] M := rfl
theorem e220_0 (ph : Bool) (d : Nat) (L st : List zV) (M : zM) : zEv ph d 220 0 L st M = zcont ph d 220 (zstep ph (zEm ph d) 4 1 0 [0] L st M) := zEv_step rfl
theorem e220_1 (ph : Bool) (d : Nat) (L st : List zV) (M : zM) : zEv ph d 220 1 L st M = zcont ph d 220 (zstep ph (zEm ph d) 0 2 0 [0] L st M) := zEv_step rfl
theorem e220_2 (ph : Bool) (d : Nat) (L st : List zV) (M : zM) : zEv ph d 220 2 L st M = zcont ph d 220 (zstep ph (zEm ph d) 65 5 0 [30, 0] L st M) := zEv_step rfl
theorem e220_5 (ph : Bool) (d : Nat) (L st : List zV) (M : zM) : zEv ph d 220 5 L st M = zcont ph d 220 (zstep ph (zEm ph d) 2 6 0 [1] L st M) := zEv_step rfl
theorem e220_6 (ph : Bool) (d : Nat) (L st : List zV) (M : zM) : zEv ph d 220 6 L st M = zcont ph d 220 (zstep ph (zEm ph d) 70 9 208 [1, 1, -1] L st M) := zEv_step rfl
theorem e220_9 (ph : Bool) (d : Nat) (L st : List zV) (M : zM) : zEv ph d 220 9 L st M = zcont ph d 220 (zstep ph (zEm ph d) 41 12 14 [] L st M) := zEv_step rfl
theorem e220_12 (ph : Bool) (d : Nat) (L st : List zV) (M : zM) : zEv ph d 220 12 L st M = zcont ph d 220 (zstep ph (zEm ph d) 0 13 0 [-1] L st M) := zEv_step rfl
theorem e220_13 (ph : Bool) (d : Nat) (L st : List zV) (M : zM) : zEv ph d 220 13 L st M = zcont ph d 220 (zstep ph (zEm ph d) 80 14 0 [] L st M) := zEv_step rfl
theorem e220_14 (ph : Bool) (d : Nat) (L st : List zV) (M : zM) : zEv ph d 220 14 L st M = zcont ph d 220 (zstep ph (zEm ph d) 2 15 0 [2] L st M) := zEv_step rfl
theorem e220_15 (ph : Bool) (d : Nat) (L st : List zV) (M : zM) : zEv ph d 220 15 L st M = zcont ph d 220 (zstep ph (zEm ph d) 41 18 30 [] L st M) := zEv_step rfl
theorem e220_18 (ph : Bool) (d : Nat) (L st : List zV) (M : zM) : zEv ph d 220 18 L st M = zcont ph d 220 (zstep ph (zEm ph d) 4 19 0 [0] L st M) := zEv_step rfl
theorem e220_19 (ph : Bool) (d : Nat) (L st : List zV) (M : zM) : zEv ph d 220 19 L st M = zcont ph d 220 (zstep ph (zEm ph d) 62 22 0 [30, 14, 2, 10, 368] L st M) := zEv_step rfl
theorem e220_22 (ph : Bool) (d : Nat) (L st : List zV) (M : zM) : zEv ph d 220 22 L st M = zcont ph d 220 (zstep ph (zEm ph d) 0 24 0 [79] L st M) := zEv_step rfl
theorem e220_24 (ph : Bool) (d : Nat) (L st : List zV) (M : zM) : zEv ph d 220 24 L st M = zcont ph d 220 (zstep ph (zEm ph d) 2 25 0 [1] L st M) := zEv_step rfl
theorem e220_25 (ph : Bool) (d : Nat) (L st : List zV) (M : zM) : zEv ph d 220 25 L st M = zcont ph d 220 (zstep ph (zEm ph d) 10 26 0 [] L st M) := zEv_step rfl
theorem e220_26 (ph : Bool) (d : Nat) (L st : List zV) (M : zM) : zEv ph d 220 26 L st M = zcont ph d 220 (zstep ph (zEm ph d) 85 27 0 [] L st M) := zEv_step rfl
theorem e220_27 (ph : Bool) (d : Nat) (L st : List zV) (M : zM) : zEv ph d 220 27 L st M = zcont ph d 220 (zstep ph (zEm ph d) 52 30 48 [] L st M) := zEv_step rfl
theorem e220_30 (ph : Bool) (d : Nat) (L st : List zV) (M : zM) : zEv ph d 220 30 L st M = zcont ph d 220 (zstep ph (zEm ph d) 2 31 0 [2] L st M) := zEv_step rfl
theorem e220_31 (ph : Bool) (d : Nat) (L st : List zV) (M : zM) : zEv ph d 220 31 L st M = zcont ph d 220 (zstep ph (zEm ph d) 0 32 0 [1] L st M) := zEv_step rfl
theorem e220_32 (ph : Bool) (d : Nat) (L st : List zV) (M : zM) : zEv ph d 220 32 L st M = zcont ph d 220 (zstep ph (zEm ph d) 47 35 47 [] L st M) := zEv_step rfl
theorem e220_35 (ph : Bool) (d : Nat) (L st : List zV) (M : zM) : zEv ph d 220 35 L st M = zcont ph d 220 (zstep ph (zEm ph d) 4 36 0 [0] L st M) := zEv_step rfl
theorem e220_36 (ph : Bool) (d : Nat) (L st : List zV) (M : zM) : zEv ph d 220 36 L st M = zcont ph d 220 (zstep ph (zEm ph d) 62 39 0 [30, 14, 2, 10, 368] L st M) := zEv_step rfl
theorem e220_39 (ph : Bool) (d : Nat) (L st : List zV) (M : zM) : zEv ph d 220 39 L st M = zcont ph d 220 (zstep ph (zEm ph d) 0 41 0 [7] L st M) := zEv_step rfl
theorem e220_41 (ph : Bool) (d : Nat) (L st : List zV) (M : zM) : zEv ph d 220 41 L st M = zcont ph d 220 (zstep ph (zEm ph d) 2 42 0 [1] L st M) := zEv_step rfl
theorem e220_42 (ph : Bool) (d : Nat) (L st : List zV) (M : zM) : zEv ph d 220 42 L st M = zcont ph d 220 (zstep ph (zEm ph d) 10 43 0 [] L st M) := zEv_step rfl
theorem e220_43 (ph : Bool) (d : Nat) (L st : List zV) (M : zM) : zEv ph d 220 43 L st M = zcont ph d 220 (zstep ph (zEm ph d) 85 44 0 [] L st M) := zEv_step rfl
theorem e220_44 (ph : Bool) (d : Nat) (L st : List zV) (M : zM) : zEv ph d 220 44 L st M = zcont ph d 220 (zstep ph (zEm ph d) 52 47 48 [] L st M) := zEv_step rfl
theorem e220_47 (ph : Bool) (d : Nat) (L st : List zV) (M : zM) : zEv ph d 220 47 L st M = zcont ph d 220 (zstep ph (zEm ph d) 0 48 0 [-1] L st M) := zEv_step rfl
theorem e220_48 (ph : Bool) (d : Nat) (L st : List zV) (M : zM) : zEv ph d 220 48 L st M = zcont ph d 220 (zstep ph (zEm ph d) 80 49 0 [] L st M) := zEv_step rfl
theorem m243 (ph : Bool) (d : Nat) (a x0 p0 y0 p1 y1 : Int) (M : zM) : zEm ph (d + 1) 243 [(30, a, x0), (0, p0, y0), (0, p1, y1)] M = zEv ph d 243 0 [(30, a, x0), (0, p0, y0), (0, p1, y1)] [] M := rfl
theorem e243_0 (ph : Bool) (d : Nat) (L st : List zV) (M : zM) : zEv ph d 243 0 L st M = zcont ph d 243 (zstep ph (zEm ph d) 4 1 0 [0] L st M) := zEv_step rfl
theorem e243_1 (ph : Bool) (d : Nat) (L st : List zV) (M : zM) : zEv ph d 243 1 L st M = zcont ph d 243 (zstep ph (zEm ph d) 0 2 0 [0] L st M) := zEv_step rfl
theorem e243_2 (ph : Bool) (d : Nat) (L st : List zV) (M : zM) : zEv ph d 243 2 L st M = zcont ph d 243 (zstep ph (zEm ph d) 65 5 0 [30, 0] L st M) := zEv_step rfl
theorem e243_5 (ph : Bool) (d : Nat) (L st : List zV) (M : zM) : zEv ph d 243 5 L st M = zcont ph d 243 (zstep ph (zEm ph d) 4 6 0 [0] L st M) := zEv_step rfl
theorem e243_6 (ph : Bool) (d : Nat) (L st : List zV) (M : zM) : zEv ph d 243 6 L st M = zcont ph d 243 (zstep ph (zEm ph d) 2 7 0 [1] L st M) := zEv_step rfl
theorem e243_7 (ph : Bool) (d : Nat) (L st : List zV) (M : zM) : zEv ph d 243 7 L st M = zcont ph d 243 (zstep ph (zEm ph d) 70 10 206 [2, 1, 30] L st M) := zEv_step rfl
theorem e243_10 (ph : Bool) (d : Nat) (L st : List zV) (M : zM) : zEv ph d 243 10 L st M = zcont ph d 243 (zstep ph (zEm ph d) 40 13 46 [] L st M) := zEv_step rfl
theorem e243_13 (ph : Bool) (d : Nat) (L st : List zV) (M : zM) : zEv ph d 243 13 L st M = zcont ph d 243 (zstep ph (zEm ph d) 2 14 0 [2] L st M) := zEv_step rfl
theorem e243_14 (ph : Bool) (d : Nat) (L st : List zV) (M : zM) : zEv ph d 243 14 L st M = zcont ph d 243 (zstep ph (zEm ph d) 70 17 208 [1, 1, -1] L st M) := zEv_step rfl
theorem e243_17 (ph : Bool) (d : Nat) (L st : List zV) (M : zM) : zEv ph d 243 17 L st M = zcont ph d 243 (zstep ph (zEm ph d) 40 20 46 [] L st M) := zEv_step rfl
theorem e243_20 (ph : Bool) (d : Nat) (L st : List zV) (M : zM) : zEv ph d 243 20 L st M = zcont ph d 243 (zstep ph (zEm ph d) 4 21 0 [0] L st M) := zEv_step rfl
theorem e243_21 (ph : Bool) (d : Nat) (L st : List zV) (M : zM) : zEv ph d 243 21 L st M = zcont ph d 243 (zstep ph (zEm ph d) 4 22 0 [0] L st M) := zEv_step rfl
theorem e243_22 (ph : Bool) (d : Nat) (L st : List zV) (M : zM) : zEv ph d 243 22 L st M = zcont ph d 243 (zstep ph (zEm ph d) 62 25 0 [30, 14, 2, 10, 368] L st M) := zEv_step rfl
theorem e243_25 (ph : Bool) (d : Nat) (L st : List zV) (M : zM) : zEv ph d 243 25 L st M = zcont ph d 243 (zstep ph (zEm ph d) 2 26 0 [2] L st M) := zEv_step rfl
theorem e243_26 (ph : Bool) (d : Nat) (L st : List zV) (M : zM) : zEv ph d 243 26 L st M = zcont ph d 243 (zstep ph (zEm ph d) 41 29 34 [] L st M) := zEv_step rfl
theorem e243_29 (ph : Bool) (d : Nat) (L st : List zV) (M : zM) : zEv ph d 243 29 L st M = zcont ph d 243 (zstep ph (zEm ph d) 0 31 0 [101] L st M) := zEv_step rfl
theorem e243_31 (ph : Bool) (d : Nat) (L st : List zV) (M : zM) : zEv ph d 243 31 L st M = zcont ph d 243 (zstep ph (zEm ph d) 52 34 36 [] L st M) := zEv_step rfl
theorem e243_34 (ph : Bool) (d : Nat) (L st : List zV) (M : zM) : zEv ph d 243 34 L st M = zcont ph d 243 (zstep ph (zEm ph d) 0 36 0 [106] L st M) := zEv_step rfl
theorem e243_36 (ph : Bool) (d : Nat) (L st : List zV) (M : zM) : zEv ph d 243 36 L st M = zcont ph d 243 (zstep ph (zEm ph d) 2 37 0 [1] L st M) := zEv_step rfl
theorem e243_37 (ph : Bool) (d : Nat) (L st : List zV) (M : zM) : zEv ph d 243 37 L st M = zcont ph d 243 (zstep ph (zEm ph d) 10 38 0 [] L st M) := zEv_step rfl
theorem e243_38 (ph : Bool) (d : Nat) (L st : List zV) (M : zM) : zEv ph d 243 38 L st M = zcont ph d 243 (zstep ph (zEm ph d) 85 39 0 [] L st M) := zEv_step rfl
theorem e243_39 (ph : Bool) (d : Nat) (L st : List zV) (M : zM) : zEv ph d 243 39 L st M = zcont ph d 243 (zstep ph (zEm ph d) 2 40 0 [2] L st M) := zEv_step rfl
theorem e243_40 (ph : Bool) (d : Nat) (L st : List zV) (M : zM) : zEv ph d 243 40 L st M = zcont ph d 243 (zstep ph (zEm ph d) 70 43 212 [3, 1, 30] L st M) := zEv_step rfl
theorem e243_43 (ph : Bool) (d : Nat) (L st : List zV) (M : zM) : zEv ph d 243 43 L st M = zcont ph d 243 (zstep ph (zEm ph d) 52 46 47 [] L st M) := zEv_step rfl
theorem e243_46 (ph : Bool) (d : Nat) (L st : List zV) (M : zM) : zEv ph d 243 46 L st M = zcont ph d 243 (zstep ph (zEm ph d) 0 47 0 [-1] L st M) := zEv_step rfl
theorem e243_47 (ph : Bool) (d : Nat) (L st : List zV) (M : zM) : zEv ph d 243 47 L st M = zcont ph d 243 (zstep ph (zEm ph d) 80 48 0 [] L st M) := zEv_step rfl
theorem m244 (ph : Bool) (d : Nat) (a x0 p0 y0 : Int) (M : zM) : zEm ph (d + 1) 244 [(30, a, x0), (0, p0, y0)] M = zEv ph d 244 0 [(30, a, x0), (0, p0, y0)] [] M := rfl
theorem e244_0 (ph : Bool) (d : Nat) (L st : List zV) (M : zM) : zEv ph d 244 0 L st M = zcont ph d 244 (zstep ph (zEm ph d) 4 1 0 [0] L st M) := zEv_step rfl
theorem e244_1 (ph : Bool) (d : Nat) (L st : List zV) (M : zM) : zEv ph d 244 1 L st M = zcont ph d 244 (zstep ph (zEm ph d) 0 2 0 [0] L st M) := zEv_step rfl
theorem e244_2 (ph : Bool) (d : Nat) (L st : List zV) (M : zM) : zEv ph d 244 2 L st M = zcont ph d 244 (zstep ph (zEm ph d) 65 5 0 [30, 0] L st M) := zEv_step rfl
theorem e244_5 (ph : Bool) (d : Nat) (L st : List zV) (M : zM) : zEv ph d 244 5 L st M = zcont ph d 244 (zstep ph (zEm ph d) 4 6 0 [0] L st M) := zEv_step rfl
theorem e244_6 (ph : Bool) (d : Nat) (L st : List zV) (M : zM) : zEv ph d 244 6 L st M = zcont ph d 244 (zstep ph (zEm ph d) 2 7 0 [1] L st M) := zEv_step rfl
theorem e244_7 (ph : Bool) (d : Nat) (L st : List zV) (M : zM) : zEv ph d 244 7 L st M = zcont ph d 244 (zstep ph (zEm ph d) 70 10 206 [2, 1, 30] L st M) := zEv_step rfl
theorem e244_10 (ph : Bool) (d : Nat) (L st : List zV) (M : zM) : zEv ph d 244 10 L st M = zcont ph d 244 (zstep ph (zEm ph d) 40 13 29 [] L st M) := zEv_step rfl
theorem e244_13 (ph : Bool) (d : Nat) (L st : List zV) (M : zM) : zEv ph d 244 13 L st M = zcont ph d 244 (zstep ph (zEm ph d) 4 14 0 [0] L st M) := zEv_step rfl
theorem e244_14 (ph : Bool) (d : Nat) (L st : List zV) (M : zM) : zEv ph d 244 14 L st M = zcont ph d 244 (zstep ph (zEm ph d) 2 15 0 [1] L st M) := zEv_step rfl
theorem e244_15 (ph : Bool) (d : Nat) (L st : List zV) (M : zM) : zEv ph d 244 15 L st M = zcont ph d 244 (zstep ph (zEm ph d) 70 18 214 [2, 1, 30] L st M) := zEv_step rfl
theorem e244_18 (ph : Bool) (d : Nat) (L st : List zV) (M : zM) : zEv ph d 244 18 L st M = zcont ph d 244 (zstep ph (zEm ph d) 40 21 25 [] L st M) := zEv_step rfl
theorem e244_21 (ph : Bool) (d : Nat) (L st : List zV) (M : zM) : zEv ph d 244 21 L st M = zcont ph d 244 (zstep ph (zEm ph d) 0 22 0 [1] L st M) := zEv_step rfl
theorem e244_22 (ph : Bool) (d : Nat) (L st : List zV) (M : zM) : zEv ph d 244 22 L st M = zcont ph d 244 (zstep ph (zEm ph d) 52 25 30 [] L st M) := zEv_step rfl
theorem e244_25 (ph : Bool) (d : Nat) (L st : List zV) (M : zM) : zEv ph d 244 25 L st M = zcont ph d 244 (zstep ph (zEm ph d) 0 26 0 [0] L st M) := zEv_step rfl
theorem e244_26 (ph : Bool) (d : Nat) (L st : List zV) (M : zM) : zEv ph d 244 26 L st M = zcont ph d 244 (zstep ph (zEm ph d) 52 29 30 [] L st M) := zEv_step rfl
theorem e244_29 (ph : Bool) (d : Nat) (L st : List zV) (M : zM) : zEv ph d 244 29 L st M = zcont ph d 244 (zstep ph (zEm ph d) 0 30 0 [-1] L st M) := zEv_step rfl
theorem e244_30 (ph : Bool) (d : Nat) (L st : List zV) (M : zM) : zEv ph d 244 30 L st M = zcont ph d 244 (zstep ph (zEm ph d) 80 31 0 [] L st M) := zEv_step rfl
theorem pair_wants (d : Nat) (x0 z0 h y1 z1 q y2 z2 : Int) (M : zM) (hC : relC M) (hE : relE M) : zPairQ M (zEm true (d + 8) 6 [(29, 0, x0), (0, h, y1), (0, q, y2)] M) (fun M1 => zEm true (d + 8) 217 [(30, 197, z0), (0, h, z1), (0, q, z2)] M1) := by
  obtain ⟨n0, n1, n2, n3, n4, n5⟩ := relC_n hC
  obtain ⟨⟨g6, g6'⟩, ⟨g1, g2⟩, ⟨g3, g4⟩, -⟩ := okG_M hC.2
  by_cases c1 : 0 ≤ h ∧ h < M 30 7
  · by_cases c2 : 0 ≤ q ∧ q < M 30 8
    · refine ⟨sWant (zvS M 37) h q, ?_, ?_⟩
      · simp (disch := first | assumption | exact zrm0 | exact zrm1 _ | exact zrm2 _ _ | exact zrm3 _ _ _ | exact zrm4 _ _ _ _ | omega) only [m6, ↓k_dp, ↓k_dn, k_dp, k_dn, k_dT, k_dF, k_ip, k_in, if_true, if_false, ne_eq, not_true_eq_false, not_false_eq_true, Int.reduceAdd, zup_a, zup_e, zup_j, z32_id, k_al0, k_il1, k_v2r, k_ifeq, k_il2, k_ifne, k_ic, k_ri, k_gR, k_v3r, zb0_some, zb1_some, e6_0, e6_1, e6_2, e6_5, e6_8, e6_9, e6_10, e6_13, e6_16, e6_17, e6_18, e6_19, e6_22, e6_23, e6_24, e6_27, c_isHand, c_isQuestion, if_pos c1, if_pos c2, s_wayWanted]
      · simp (disch := first | assumption | exact zrm0 | exact zrm1 _ | exact zrm2 _ _ | exact zrm3 _ _ _ | exact zrm4 _ _ _ _ | omega) only [m217, ↓k_dp, ↓k_dn, k_dp, k_dn, k_dT, k_dF, k_ip, k_in, if_true, if_false, ne_eq, not_true_eq_false, not_false_eq_true, Int.reduceAdd, zup_a, zup_e, zup_j, z32_id, k_al0, k_ic, k_pI, k_il1, k_v2r, k_ifeq, k_il2, k_v3r, k_goto, k_ri, zb0_some, zb1_some, e217_0, e217_1, e217_2, e217_5, e217_6, e217_7, e217_10, e217_13, e217_14, e217_15, e217_18, e217_21, e217_22, e217_23, e217_24, e217_27, e217_30, e217_31, rT_isHand, rT_isQuestion, n1, n2, if_pos c1, if_pos c2, r_wayOf, rT_S, hE.1]
    · refine ⟨-1, ?_, ?_⟩
      · simp (disch := first | assumption | exact zrm0 | exact zrm1 _ | exact zrm2 _ _ | exact zrm3 _ _ _ | exact zrm4 _ _ _ _ | omega) only [m6, ↓k_dp, ↓k_dn, k_dp, k_dn, k_dT, k_dF, k_ip, k_in, if_true, if_false, ne_eq, not_true_eq_false, not_false_eq_true, Int.reduceAdd, zup_a, zup_e, zup_j, z32_id, k_al0, k_il1, k_v2r, k_ifeq, k_il2, k_ifne, k_ic, k_ri, k_gR, k_v3r, zb0_some, zb1_some, e6_0, e6_1, e6_2, e6_5, e6_8, e6_9, e6_10, e6_13, e6_16, e6_17, e6_18, e6_19, e6_22, e6_23, e6_24, e6_27, c_isHand, c_isQuestion, if_pos c1, if_neg c2, s_wayWanted]
      · simp (disch := first | assumption | exact zrm0 | exact zrm1 _ | exact zrm2 _ _ | exact zrm3 _ _ _ | exact zrm4 _ _ _ _ | omega) only [m217, ↓k_dp, ↓k_dn, k_dp, k_dn, k_dT, k_dF, k_ip, k_in, if_true, if_false, ne_eq, not_true_eq_false, not_false_eq_true, Int.reduceAdd, zup_a, zup_e, zup_j, z32_id, k_al0, k_ic, k_pI, k_il1, k_v2r, k_ifeq, k_il2, k_v3r, k_goto, k_ri, zb0_some, zb1_some, e217_0, e217_1, e217_2, e217_5, e217_6, e217_7, e217_10, e217_13, e217_14, e217_15, e217_18, e217_21, e217_22, e217_23, e217_24, e217_27, e217_30, e217_31, rT_isHand, rT_isQuestion, n1, n2, if_pos c1, if_neg c2]
  · refine ⟨-1, ?_, ?_⟩
    · simp (disch := first | assumption | exact zrm0 | exact zrm1 _ | exact zrm2 _ _ | exact zrm3 _ _ _ | exact zrm4 _ _ _ _ | omega) only [m6, ↓k_dp, ↓k_dn, k_dp, k_dn, k_dT, k_dF, k_ip, k_in, if_true, if_false, ne_eq, not_true_eq_false, not_false_eq_true, Int.reduceAdd, zup_a, zup_e, zup_j, z32_id, k_al0, k_il1, k_v2r, k_ifeq, k_il2, k_ifne, k_ic, k_ri, k_gR, k_v3r, zb0_some, zb1_some, e6_0, e6_1, e6_2, e6_5, e6_8, e6_9, e6_10, e6_13, e6_16, e6_17, e6_18, e6_19, e6_22, e6_23, e6_24, e6_27, c_isHand, if_neg c1]
    · simp (disch := first | assumption | exact zrm0 | exact zrm1 _ | exact zrm2 _ _ | exact zrm3 _ _ _ | exact zrm4 _ _ _ _ | omega) only [m217, ↓k_dp, ↓k_dn, k_dp, k_dn, k_dT, k_dF, k_ip, k_in, if_true, if_false, ne_eq, not_true_eq_false, not_false_eq_true, Int.reduceAdd, zup_a, zup_e, zup_j, z32_id, k_al0, k_ic, k_pI, k_il1, k_v2r, k_ifeq, k_il2, k_v3r, k_goto, k_ri, zb0_some, zb1_some, e217_0, e217_1, e217_2, e217_5, e217_6, e217_7, e217_10, e217_13, e217_14, e217_15, e217_18, e217_21, e217_22, e217_23, e217_24, e217_27, e217_30, e217_31, rT_isHand, n1, if_neg c1]
theorem pair_grants (d : Nat) (x0 z0 q y1 z1 s y2 z2 : Int) (M : zM) (hC : relC M) (hE : relE M) : zPairQ M (zEm true (d + 8) 8 [(29, 0, x0), (0, q, y1), (0, s, y2)] M) (fun M1 => zEm true (d + 8) 219 [(30, 197, z0), (0, q, z1), (0, s, z2)] M1) := by
  obtain ⟨n0, n1, n2, n3, n4, n5⟩ := relC_n hC
  obtain ⟨-, v2, -⟩ := relC_v hC
  obtain ⟨⟨g6, g6'⟩, ⟨g1, g2⟩, ⟨g3, g4⟩, -⟩ := okG_M hC.2
  by_cases c2 : 0 ≤ q ∧ q < M 30 8
  · by_cases c1 : 0 ≤ s ∧ s < M 30 6
    · have hx : 50 + 5 * q + s = 50 + (q * 5 + s) := by omega
      refine ⟨M 35 (q * 5 + s), ?_, ?_⟩
      · have := s_grantTo (d + 6) 30 0 q 0 s 0 M (by omega) (by omega) (by omega) (by omega)
        rw [zvG_5 (by omega) (by omega)] at this
        simp (disch := first | assumption | exact zrm0 | exact zrm1 _ | exact zrm2 _ _ | exact zrm3 _ _ _ | exact zrm4 _ _ _ _ | omega) only [m8, ↓k_dp, ↓k_dn, k_dp, k_dn, k_dT, k_dF, k_ip, k_in, if_true, if_false, ne_eq, not_true_eq_false, not_false_eq_true, Int.reduceAdd, zup_a, zup_e, zup_j, z32_id, k_al0, k_il1, k_v2r, k_ifeq, k_il2, k_iflt, k_gR, k_gI, k_iclt, k_ic, k_ri, k_v3r, zb0_some, zb1_some, e8_0, e8_1, e8_2, e8_5, e8_8, e8_9, e8_12, e8_13, e8_14, e8_17, e8_20, e8_23, e8_24, e8_25, e8_26, e8_29, e8_30, e8_31, e8_34, c_isQuestion, if_pos c2, this]
      · simp (disch := first | assumption | exact zrm0 | exact zrm1 _ | exact zrm2 _ _ | exact zrm3 _ _ _ | exact zrm4 _ _ _ _ | omega) only [m219, ↓k_dp, ↓k_dn, k_dp, k_dn, k_dT, k_dF, k_ip, k_in, if_true, if_false, ne_eq, not_true_eq_false, not_false_eq_true, Int.reduceAdd, zup_a, zup_e, zup_j, z32_id, k_al0, k_ic, k_pI, k_il1, k_v2r, k_ifeq, k_il2, k_gR, k_imul, k_iadd, k_ild, k_ildS, k_ildW, k_goto, k_ri, zb0_some, zb1_some, e219_0, e219_1, e219_2, e219_5, e219_6, e219_7, e219_10, e219_13, e219_14, e219_15, e219_18, e219_21, e219_22, e219_25, e219_27, e219_28, e219_29, e219_30, e219_31, e219_32, e219_33, e219_34, e219_37, e219_38, rT_isQuestion, rT_isStreet, n0, n2, if_pos c1, if_pos c2, hx, v2]
    · refine ⟨-1, ?_, ?_⟩
      · simp (disch := first | assumption | exact zrm0 | exact zrm1 _ | exact zrm2 _ _ | exact zrm3 _ _ _ | exact zrm4 _ _ _ _ | omega) only [m8, ↓k_dp, ↓k_dn, k_dp, k_dn, k_dT, k_dF, k_ip, k_in, if_true, if_false, ne_eq, not_true_eq_false, not_false_eq_true, Int.reduceAdd, zup_a, zup_e, zup_j, z32_id, k_al0, k_il1, k_v2r, k_ifeq, k_il2, k_iflt, k_gR, k_gI, k_iclt, k_ic, k_ri, k_v3r, zb0_some, zb1_some, e8_0, e8_1, e8_2, e8_5, e8_8, e8_9, e8_12, e8_13, e8_14, e8_17, e8_20, e8_23, e8_24, e8_25, e8_26, e8_29, e8_30, e8_31, e8_34, c_isQuestion, if_pos c2]
        all_goals (split <;> rfl)
      · simp (disch := first | assumption | exact zrm0 | exact zrm1 _ | exact zrm2 _ _ | exact zrm3 _ _ _ | exact zrm4 _ _ _ _ | omega) only [m219, ↓k_dp, ↓k_dn, k_dp, k_dn, k_dT, k_dF, k_ip, k_in, if_true, if_false, ne_eq, not_true_eq_false, not_false_eq_true, Int.reduceAdd, zup_a, zup_e, zup_j, z32_id, k_al0, k_ic, k_pI, k_il1, k_v2r, k_ifeq, k_il2, k_gR, k_imul, k_iadd, k_ild, k_ildS, k_ildW, k_goto, k_ri, zb0_some, zb1_some, e219_0, e219_1, e219_2, e219_5, e219_6, e219_7, e219_10, e219_13, e219_14, e219_15, e219_18, e219_21, e219_22, e219_25, e219_27, e219_28, e219_29, e219_30, e219_31, e219_32, e219_33, e219_34, e219_37, e219_38, rT_isQuestion, rT_isStreet, n0, n2, if_neg c1, if_pos c2]
  · refine ⟨-1, ?_, ?_⟩
    · simp (disch := first | assumption | exact zrm0 | exact zrm1 _ | exact zrm2 _ _ | exact zrm3 _ _ _ | exact zrm4 _ _ _ _ | omega) only [m8, ↓k_dp, ↓k_dn, k_dp, k_dn, k_dT, k_dF, k_ip, k_in, if_true, if_false, ne_eq, not_true_eq_false, not_false_eq_true, Int.reduceAdd, zup_a, zup_e, zup_j, z32_id, k_al0, k_il1, k_v2r, k_ifeq, k_il2, k_iflt, k_gR, k_gI, k_iclt, k_ic, k_ri, k_v3r, zb0_some, zb1_some, e8_0, e8_1, e8_2, e8_5, e8_8, e8_9, e8_12, e8_13, e8_14, e8_17, e8_20, e8_23, e8_24, e8_25, e8_26, e8_29, e8_30, e8_31, e8_34, c_isQuestion, if_neg c2]
    · simp (disch := first | assumption | exact zrm0 | exact zrm1 _ | exact zrm2 _ _ | exact zrm3 _ _ _ | exact zrm4 _ _ _ _ | omega) only [m219, ↓k_dp, ↓k_dn, k_dp, k_dn, k_dT, k_dF, k_ip, k_in, if_true, if_false, ne_eq, not_true_eq_false, not_false_eq_true, Int.reduceAdd, zup_a, zup_e, zup_j, z32_id, k_al0, k_ic, k_pI, k_il1, k_v2r, k_ifeq, k_il2, k_gR, k_imul, k_iadd, k_ild, k_ildS, k_ildW, k_goto, k_ri, zb0_some, zb1_some, e219_0, e219_1, e219_2, e219_5, e219_6, e219_7, e219_10, e219_13, e219_14, e219_15, e219_18, e219_21, e219_22, e219_25, e219_27, e219_28, e219_29, e219_30, e219_31, e219_32, e219_33, e219_34, e219_37, e219_38, rT_isQuestion, n2, if_neg c2]
theorem pair_way (d : Nat) (x0 z0 w y1 z1 k y2 z2 : Int) (M : zM) (hC : relC M) (hE : relE M) : zPairQ M (zEm true (d + 8) 9 [(29, 0, x0), (0, w, y1), (0, k, y2)] M) (fun M1 => zEm true (d + 8) 220 [(30, 197, z0), (0, w, z1), (0, k, z2)] M1) := by
  obtain ⟨-, -, v3⟩ := relC_v hC
  obtain ⟨-, -, -, -, -, -, -, -, -, -, s8⟩ := relE_n hE
  by_cases c1 : 0 ≤ w ∧ w ≤ 1
  · by_cases k0 : k = 0
    · refine ⟨M 45 w, ?_, ?_⟩
      · simp (disch := first | assumption | exact zrm0 | exact zrm1 _ | exact zrm2 _ _ | exact zrm3 _ _ _ | exact zrm4 _ _ _ _ | omega) only [m9, ↓k_dp, ↓k_dn, k_dp, k_dn, k_dT, k_dF, k_ip, k_in, if_true, if_false, ne_eq, not_true_eq_false, not_false_eq_true, Int.reduceAdd, zup_a, zup_e, zup_j, z32_id, k_il1, k_s1r, k_ifne, k_ic, k_ri, k_il2, k_al0, k_gR, k_ild, k_ildS, k_ildW, zb0_some, zb1_some, e9_0, e9_1, e9_4, e9_7, e9_8, e9_9, e9_10, e9_36, e9_37, e9_40, e9_43, e9_44, e9_45, e9_46, e9_47, e9_50, e9_53, e9_54, e9_55, e9_56, e9_57, c_isWay, if_pos c1]
      · simp (disch := first | assumption | exact zrm0 | exact zrm1 _ | exact zrm2 _ _ | exact zrm3 _ _ _ | exact zrm4 _ _ _ _ | omega) only [m220, ↓k_dp, ↓k_dn, k_dp, k_dn, k_dT, k_dF, k_ip, k_in, if_true, if_false, ne_eq, not_true_eq_false, not_false_eq_true, Int.reduceAdd, zup_a, zup_e, zup_j, z32_id, k_al0, k_ic, k_pI, k_il1, k_s1r, k_ifne, k_ri, k_il2, k_gR, k_iadd, k_ild, k_ildS, k_ildW, k_goto, k_icne, zb0_some, zb1_some, e220_0, e220_1, e220_2, e220_5, e220_6, e220_9, e220_12, e220_13, e220_14, e220_15, e220_18, e220_19, e220_22, e220_24, e220_25, e220_26, e220_27, e220_30, e220_31, e220_32, e220_35, e220_36, e220_39, e220_41, e220_42, e220_43, e220_44, e220_47, e220_48, r_isWay2, if_pos c1, s8]
    · by_cases k1 : k = 1
      · refine ⟨M 36 w, ?_, ?_⟩
        · simp (disch := first | assumption | exact zrm0 | exact zrm1 _ | exact zrm2 _ _ | exact zrm3 _ _ _ | exact zrm4 _ _ _ _ | omega) only [m9, ↓k_dp, ↓k_dn, k_dp, k_dn, k_dT, k_dF, k_ip, k_in, if_true, if_false, ne_eq, not_true_eq_false, not_false_eq_true, Int.reduceAdd, zup_a, zup_e, zup_j, z32_id, k_il1, k_s1r, k_ifne, k_ic, k_ri, k_il2, k_al0, k_gR, k_ild, k_ildS, k_ildW, zb0_some, zb1_some, e9_0, e9_1, e9_4, e9_7, e9_8, e9_9, e9_10, e9_36, e9_37, e9_40, e9_43, e9_44, e9_45, e9_46, e9_47, e9_50, e9_53, e9_54, e9_55, e9_56, e9_57, c_isWay, if_pos c1]
        · simp (disch := first | assumption | exact zrm0 | exact zrm1 _ | exact zrm2 _ _ | exact zrm3 _ _ _ | exact zrm4 _ _ _ _ | omega) only [m220, ↓k_dp, ↓k_dn, k_dp, k_dn, k_dT, k_dF, k_ip, k_in, if_true, if_false, ne_eq, not_true_eq_false, not_false_eq_true, Int.reduceAdd, zup_a, zup_e, zup_j, z32_id, k_al0, k_ic, k_pI, k_il1, k_s1r, k_ifne, k_ri, k_il2, k_gR, k_iadd, k_ild, k_ildS, k_ildW, k_goto, k_icne, zb0_some, zb1_some, e220_0, e220_1, e220_2, e220_5, e220_6, e220_9, e220_12, e220_13, e220_14, e220_15, e220_18, e220_19, e220_22, e220_24, e220_25, e220_26, e220_27, e220_30, e220_31, e220_32, e220_35, e220_36, e220_39, e220_41, e220_42, e220_43, e220_44, e220_47, e220_48, r_isWay2, if_pos c1, v3]
      · refine ⟨-1, ?_, ?_⟩
        · simp (disch := first | assumption | exact zrm0 | exact zrm1 _ | exact zrm2 _ _ | exact zrm3 _ _ _ | exact zrm4 _ _ _ _ | omega) only [m9, ↓k_dp, ↓k_dn, k_dp, k_dn, k_dT, k_dF, k_ip, k_in, if_true, if_false, ne_eq, not_true_eq_false, not_false_eq_true, Int.reduceAdd, zup_a, zup_e, zup_j, z32_id, k_il1, k_s1r, k_ifne, k_ic, k_ri, k_il2, k_al0, k_gR, k_ild, k_ildS, k_ildW, zb0_some, zb1_some, e9_0, e9_1, e9_4, e9_7, e9_8, e9_9, e9_10, e9_36, e9_37, e9_40, e9_43, e9_44, e9_45, e9_46, e9_47, e9_50, e9_53, e9_54, e9_55, e9_56, e9_57, c_isWay, if_pos c1]
        · simp (disch := first | assumption | exact zrm0 | exact zrm1 _ | exact zrm2 _ _ | exact zrm3 _ _ _ | exact zrm4 _ _ _ _ | omega) only [m220, ↓k_dp, ↓k_dn, k_dp, k_dn, k_dT, k_dF, k_ip, k_in, if_true, if_false, ne_eq, not_true_eq_false, not_false_eq_true, Int.reduceAdd, zup_a, zup_e, zup_j, z32_id, k_al0, k_ic, k_pI, k_il1, k_s1r, k_ifne, k_ri, k_il2, k_gR, k_iadd, k_ild, k_ildS, k_ildW, k_goto, k_icne, zb0_some, zb1_some, e220_0, e220_1, e220_2, e220_5, e220_6, e220_9, e220_12, e220_13, e220_14, e220_15, e220_18, e220_19, e220_22, e220_24, e220_25, e220_26, e220_27, e220_30, e220_31, e220_32, e220_35, e220_36, e220_39, e220_41, e220_42, e220_43, e220_44, e220_47, e220_48, r_isWay2, if_pos c1]
  · refine ⟨-1, ?_, ?_⟩
    · simp (disch := first | assumption | exact zrm0 | exact zrm1 _ | exact zrm2 _ _ | exact zrm3 _ _ _ | exact zrm4 _ _ _ _ | omega) only [m9, ↓k_dp, ↓k_dn, k_dp, k_dn, k_dT, k_dF, k_ip, k_in, if_true, if_false, ne_eq, not_true_eq_false, not_false_eq_true, Int.reduceAdd, zup_a, zup_e, zup_j, z32_id, k_il1, k_s1r, k_ifne, k_ic, k_ri, k_il2, k_al0, k_gR, k_ild, k_ildS, k_ildW, zb0_some, zb1_some, e9_0, e9_1, e9_4, e9_7, e9_8, e9_9, e9_10, e9_36, e9_37, e9_40, e9_43, e9_44, e9_45, e9_46, e9_47, e9_50, e9_53, e9_54, e9_55, e9_56, e9_57, c_isWay, if_neg c1]
    · simp (disch := first | assumption | exact zrm0 | exact zrm1 _ | exact zrm2 _ _ | exact zrm3 _ _ _ | exact zrm4 _ _ _ _ | omega) only [m220, ↓k_dp, ↓k_dn, k_dp, k_dn, k_dT, k_dF, k_ip, k_in, if_true, if_false, ne_eq, not_true_eq_false, not_false_eq_true, Int.reduceAdd, zup_a, zup_e, zup_j, z32_id, k_al0, k_ic, k_pI, k_il1, k_s1r, k_ifne, k_ri, k_il2, k_gR, k_iadd, k_ild, k_ildS, k_ildW, k_goto, k_icne, zb0_some, zb1_some, e220_0, e220_1, e220_2, e220_5, e220_6, e220_9, e220_12, e220_13, e220_14, e220_15, e220_18, e220_19, e220_22, e220_24, e220_25, e220_26, e220_27, e220_30, e220_31, e220_32, e220_35, e220_36, e220_39, e220_41, e220_42, e220_43, e220_44, e220_47, e220_48, r_isWay2, if_neg c1]
theorem pair_noise (d : Nat) (x0 z0 q y1 z1 w y2 z2 : Int) (M : zM) (hC : relC M) (hE : relE M) : zPairQ M (zEm true (d + 8) 20 [(29, 0, x0), (0, q, y1), (0, w, y2)] M) (fun M1 => zEm true (d + 8) 243 [(30, 197, z0), (0, q, z1), (0, w, z2)] M1) := by
  obtain ⟨n0, n1, n2, n3, n4, n5⟩ := relC_n hC
  obtain ⟨-, -, -, -, -, s3, s4, -⟩ := relE_n hE
  obtain ⟨⟨g6, g6'⟩, ⟨g1, g2⟩, ⟨g3, g4⟩, -⟩ := okG_M hC.2
  obtain ⟨t1, t2⟩ := relT (v := 0) hC hE
  by_cases c2 : 0 ≤ q ∧ q < M 30 8
  · by_cases c1 : 0 ≤ w ∧ w ≤ 1
    · by_cases c3 : w = 0
      · subst c3
        refine ⟨sWay (zvS M 37) (zvG M 30) (M 40 q) 0, ?_, ?_⟩
        · simp (disch := first | assumption | exact zrm0 | exact zrm1 _ | exact zrm2 _ _ | exact zrm3 _ _ _ | exact zrm4 _ _ _ _ | omega) only [m20, ↓k_dp, ↓k_dn, k_dp, k_dn, k_dT, k_dF, k_ip, k_in, if_true, if_false, ne_eq, not_true_eq_false, not_false_eq_true, Int.reduceAdd, zup_a, zup_e, zup_j, z32_id, k_al0, k_il1, k_v2r, k_ifeq, k_il2, k_s1r, k_ifne, k_ic, k_ri, k_gR, k_ild, k_ildS, k_ildW, k_goto, k_is3, k_il3, k_v4r, zb0_some, zb1_some, e20_0, e20_1, e20_2, e20_5, e20_8, e20_9, e20_12, e20_15, e20_16, e20_17, e20_18, e20_21, e20_22, e20_25, e20_28, e20_29, e20_30, e20_33, e20_34, e20_37, e20_40, e20_41, e20_42, e20_43, e20_44, e20_47, e20_48, e20_51, e20_52, e20_53, e20_56, c_isQuestion, c_isWay, if_pos c1, if_pos c2, s_wayNoise]
        · simp (disch := first | assumption | exact zrm0 | exact zrm1 _ | exact zrm2 _ _ | exact zrm3 _ _ _ | exact zrm4 _ _ _ _ | omega) only [m243, ↓k_dp, ↓k_dn, k_dp, k_dn, k_dT, k_dF, k_ip, k_in, if_true, if_false, ne_eq, not_true_eq_false, not_false_eq_true, Int.reduceAdd, zup_a, zup_e, zup_j, z32_id, k_al0, k_ic, k_pI, k_il1, k_v2r, k_ifeq, k_il2, k_s1r, k_gR, k_ifne, k_goto, k_iadd, k_ild, k_ildS, k_ildW, k_v3r, k_ri, zb0_some, zb1_some, e243_0, e243_1, e243_2, e243_5, e243_6, e243_7, e243_10, e243_13, e243_14, e243_17, e243_20, e243_21, e243_22, e243_25, e243_26, e243_29, e243_31, e243_34, e243_36, e243_37, e243_38, e243_39, e243_40, e243_43, e243_46, e243_47, rT_isQuestion, n2, r_isWay2, if_pos c1, if_pos c2, r_noiseAll, rT_S, rT_G, hE.1, hC.1, s3]
      · have c4 : w = 1 := by omega
        subst c4
        refine ⟨sWay (zvS M 37) (zvG M 30) (M 41 q) 1, ?_, ?_⟩
        · simp (disch := first | assumption | exact zrm0 | exact zrm1 _ | exact zrm2 _ _ | exact zrm3 _ _ _ | exact zrm4 _ _ _ _ | omega) only [m20, ↓k_dp, ↓k_dn, k_dp, k_dn, k_dT, k_dF, k_ip, k_in, if_true, if_false, ne_eq, not_true_eq_false, not_false_eq_true, Int.reduceAdd, zup_a, zup_e, zup_j, z32_id, k_al0, k_il1, k_v2r, k_ifeq, k_il2, k_s1r, k_ifne, k_ic, k_ri, k_gR, k_ild, k_ildS, k_ildW, k_goto, k_is3, k_il3, k_v4r, zb0_some, zb1_some, e20_0, e20_1, e20_2, e20_5, e20_8, e20_9, e20_12, e20_15, e20_16, e20_17, e20_18, e20_21, e20_22, e20_25, e20_28, e20_29, e20_30, e20_33, e20_34, e20_37, e20_40, e20_41, e20_42, e20_43, e20_44, e20_47, e20_48, e20_51, e20_52, e20_53, e20_56, c_isQuestion, c_isWay, if_pos c1, if_pos c2, s_wayNoise]
        · simp (disch := first | assumption | exact zrm0 | exact zrm1 _ | exact zrm2 _ _ | exact zrm3 _ _ _ | exact zrm4 _ _ _ _ | omega) only [m243, ↓k_dp, ↓k_dn, k_dp, k_dn, k_dT, k_dF, k_ip, k_in, if_true, if_false, ne_eq, not_true_eq_false, not_false_eq_true, Int.reduceAdd, zup_a, zup_e, zup_j, z32_id, k_al0, k_ic, k_pI, k_il1, k_v2r, k_ifeq, k_il2, k_s1r, k_gR, k_ifne, k_goto, k_iadd, k_ild, k_ildS, k_ildW, k_v3r, k_ri, zb0_some, zb1_some, e243_0, e243_1, e243_2, e243_5, e243_6, e243_7, e243_10, e243_13, e243_14, e243_17, e243_20, e243_21, e243_22, e243_25, e243_26, e243_29, e243_31, e243_34, e243_36, e243_37, e243_38, e243_39, e243_40, e243_43, e243_46, e243_47, rT_isQuestion, n2, r_isWay2, if_pos c1, if_pos c2, r_noiseAll, rT_S, rT_G, hE.1, hC.1, s4]
    · refine ⟨-1, ?_, ?_⟩
      · simp (disch := first | assumption | exact zrm0 | exact zrm1 _ | exact zrm2 _ _ | exact zrm3 _ _ _ | exact zrm4 _ _ _ _ | omega) only [m20, ↓k_dp, ↓k_dn, k_dp, k_dn, k_dT, k_dF, k_ip, k_in, if_true, if_false, ne_eq, not_true_eq_false, not_false_eq_true, Int.reduceAdd, zup_a, zup_e, zup_j, z32_id, k_al0, k_il1, k_v2r, k_ifeq, k_il2, k_s1r, k_ifne, k_ic, k_ri, k_gR, k_ild, k_ildS, k_ildW, k_goto, k_is3, k_il3, k_v4r, zb0_some, zb1_some, e20_0, e20_1, e20_2, e20_5, e20_8, e20_9, e20_12, e20_15, e20_16, e20_17, e20_18, e20_21, e20_22, e20_25, e20_28, e20_29, e20_30, e20_33, e20_34, e20_37, e20_40, e20_41, e20_42, e20_43, e20_44, e20_47, e20_48, e20_51, e20_52, e20_53, e20_56, c_isQuestion, c_isWay, if_neg c1, if_pos c2]
      · simp (disch := first | assumption | exact zrm0 | exact zrm1 _ | exact zrm2 _ _ | exact zrm3 _ _ _ | exact zrm4 _ _ _ _ | omega) only [m243, ↓k_dp, ↓k_dn, k_dp, k_dn, k_dT, k_dF, k_ip, k_in, if_true, if_false, ne_eq, not_true_eq_false, not_false_eq_true, Int.reduceAdd, zup_a, zup_e, zup_j, z32_id, k_al0, k_ic, k_pI, k_il1, k_v2r, k_ifeq, k_il2, k_s1r, k_gR, k_ifne, k_goto, k_iadd, k_ild, k_ildS, k_ildW, k_v3r, k_ri, zb0_some, zb1_some, e243_0, e243_1, e243_2, e243_5, e243_6, e243_7, e243_10, e243_13, e243_14, e243_17, e243_20, e243_21, e243_22, e243_25, e243_26, e243_29, e243_31, e243_34, e243_36, e243_37, e243_38, e243_39, e243_40, e243_43, e243_46, e243_47, rT_isQuestion, n2, r_isWay2, if_neg c1, if_pos c2]
  · refine ⟨-1, ?_, ?_⟩
    · simp (disch := first | assumption | exact zrm0 | exact zrm1 _ | exact zrm2 _ _ | exact zrm3 _ _ _ | exact zrm4 _ _ _ _ | omega) only [m20, ↓k_dp, ↓k_dn, k_dp, k_dn, k_dT, k_dF, k_ip, k_in, if_true, if_false, ne_eq, not_true_eq_false, not_false_eq_true, Int.reduceAdd, zup_a, zup_e, zup_j, z32_id, k_al0, k_il1, k_v2r, k_ifeq, k_il2, k_s1r, k_ifne, k_ic, k_ri, k_gR, k_ild, k_ildS, k_ildW, k_goto, k_is3, k_il3, k_v4r, zb0_some, zb1_some, e20_0, e20_1, e20_2, e20_5, e20_8, e20_9, e20_12, e20_15, e20_16, e20_17, e20_18, e20_21, e20_22, e20_25, e20_28, e20_29, e20_30, e20_33, e20_34, e20_37, e20_40, e20_41, e20_42, e20_43, e20_44, e20_47, e20_48, e20_51, e20_52, e20_53, e20_56, c_isQuestion, if_neg c2]
    · simp (disch := first | assumption | exact zrm0 | exact zrm1 _ | exact zrm2 _ _ | exact zrm3 _ _ _ | exact zrm4 _ _ _ _ | omega) only [m243, ↓k_dp, ↓k_dn, k_dp, k_dn, k_dT, k_dF, k_ip, k_in, if_true, if_false, ne_eq, not_true_eq_false, not_false_eq_true, Int.reduceAdd, zup_a, zup_e, zup_j, z32_id, k_al0, k_ic, k_pI, k_il1, k_v2r, k_ifeq, k_il2, k_s1r, k_gR, k_ifne, k_goto, k_iadd, k_ild, k_ildS, k_ildW, k_v3r, k_ri, zb0_some, zb1_some, e243_0, e243_1, e243_2, e243_5, e243_6, e243_7, e243_10, e243_13, e243_14, e243_17, e243_20, e243_21, e243_22, e243_25, e243_26, e243_29, e243_31, e243_34, e243_36, e243_37, e243_38, e243_39, e243_40, e243_43, e243_46, e243_47, rT_isQuestion, n2, if_neg c2]
theorem pair_would (d : Nat) (x0 z0 q y1 z1 : Int) (M : zM) (hC : relC M) (hE : relE M) : zPairQ M (zEm true (d + 8) 21 [(29, 0, x0), (0, q, y1)] M) (fun M1 => zEm true (d + 8) 244 [(30, 197, z0), (0, q, z1)] M1) := by
  obtain ⟨n0, n1, n2, n3, n4, n5⟩ := relC_n hC
  obtain ⟨⟨g6, g6'⟩, ⟨g1, g2⟩, ⟨g3, g4⟩, -⟩ := okG_M hC.2
  obtain ⟨t1, t2⟩ := relT (v := 0) hC hE
  have hG := hC.2
  by_cases c2 : 0 ≤ q ∧ q < M 30 8
  · refine ⟨if sWould (zvS M 37) (zvG M 30) q = true then 1 else 0, ?_, ?_⟩
    · by_cases c : sWould (zvS M 37) (zvG M 30) q = true
      · simp (disch := first | assumption | exact zrm0 | exact zrm1 _ | exact zrm2 _ _ | exact zrm3 _ _ _ | exact zrm4 _ _ _ _ | omega) only [m21, ↓k_dp, ↓k_dn, k_dp, k_dn, k_dT, k_dF, k_ip, k_in, if_true, if_false, ne_eq, not_true_eq_false, not_false_eq_true, Int.reduceAdd, zup_a, zup_e, zup_j, z32_id, k_al0, k_il1, k_v2r, k_ifne, k_ic, k_ri, k_gR, k_v3r, k_ifeq, k_goto, zb0_some, zb1_some, e21_0, e21_1, e21_2, e21_5, e21_8, e21_9, e21_10, e21_11, e21_14, e21_15, e21_18, e21_19, e21_22, e21_25, e21_26, e21_29, e21_30, c_isQuestion, if_pos c2, s_wouldCarry, c]
      · simp (disch := first | assumption | exact zrm0 | exact zrm1 _ | exact zrm2 _ _ | exact zrm3 _ _ _ | exact zrm4 _ _ _ _ | omega) only [m21, ↓k_dp, ↓k_dn, k_dp, k_dn, k_dT, k_dF, k_ip, k_in, if_true, if_false, ne_eq, not_true_eq_false, not_false_eq_true, Int.reduceAdd, zup_a, zup_e, zup_j, z32_id, k_al0, k_il1, k_v2r, k_ifne, k_ic, k_ri, k_gR, k_v3r, k_ifeq, k_goto, zb0_some, zb1_some, e21_0, e21_1, e21_2, e21_5, e21_8, e21_9, e21_10, e21_11, e21_14, e21_15, e21_18, e21_19, e21_22, e21_25, e21_26, e21_29, e21_30, c_isQuestion, if_pos c2, s_wouldCarry, c, Bool.false_eq_true]
    · by_cases c : sWould (zvS M 37) (zvG M 30) q = true
      · simp (disch := first | assumption | exact zrm0 | exact zrm1 _ | exact zrm2 _ _ | exact zrm3 _ _ _ | exact zrm4 _ _ _ _ | omega) only [m244, ↓k_dp, ↓k_dn, k_dp, k_dn, k_dT, k_dF, k_ip, k_in, if_true, if_false, ne_eq, not_true_eq_false, not_false_eq_true, Int.reduceAdd, zup_a, zup_e, zup_j, z32_id, k_al0, k_ic, k_pI, k_il1, k_v2r, k_ifeq, k_goto, k_ri, zb0_some, zb1_some, e244_0, e244_1, e244_2, e244_5, e244_6, e244_7, e244_10, e244_13, e244_14, e244_15, e244_18, e244_21, e244_22, e244_25, e244_26, e244_29, e244_30, rT_isQuestion, n2, if_pos c2, r_wouldBe, rT_S, rT_G, hE.1, hC.1, c]
      · simp (disch := first | assumption | exact zrm0 | exact zrm1 _ | exact zrm2 _ _ | exact zrm3 _ _ _ | exact zrm4 _ _ _ _ | omega) only [m244, ↓k_dp, ↓k_dn, k_dp, k_dn, k_dT, k_dF, k_ip, k_in, if_true, if_false, ne_eq, not_true_eq_false, not_false_eq_true, Int.reduceAdd, zup_a, zup_e, zup_j, z32_id, k_al0, k_ic, k_pI, k_il1, k_v2r, k_ifeq, k_goto, k_ri, zb0_some, zb1_some, e244_0, e244_1, e244_2, e244_5, e244_6, e244_7, e244_10, e244_13, e244_14, e244_15, e244_18, e244_21, e244_22, e244_25, e244_26, e244_29, e244_30, rT_isQuestion, n2, if_pos c2, r_wouldBe, rT_S, rT_G, hE.1, hC.1, c, Bool.false_eq_true]
  · refine ⟨-1, ?_, ?_⟩
    · simp (disch := first | assumption | exact zrm0 | exact zrm1 _ | exact zrm2 _ _ | exact zrm3 _ _ _ | exact zrm4 _ _ _ _ | omega) only [m21, ↓k_dp, ↓k_dn, k_dp, k_dn, k_dT, k_dF, k_ip, k_in, if_true, if_false, ne_eq, not_true_eq_false, not_false_eq_true, Int.reduceAdd, zup_a, zup_e, zup_j, z32_id, k_al0, k_il1, k_v2r, k_ifne, k_ic, k_ri, k_gR, k_v3r, k_ifeq, k_goto, zb0_some, zb1_some, e21_0, e21_1, e21_2, e21_5, e21_8, e21_9, e21_10, e21_11, e21_14, e21_15, e21_18, e21_19, e21_22, e21_25, e21_26, e21_29, e21_30, c_isQuestion, if_neg c2]
    · simp (disch := first | assumption | exact zrm0 | exact zrm1 _ | exact zrm2 _ _ | exact zrm3 _ _ _ | exact zrm4 _ _ _ _ | omega) only [m244, ↓k_dp, ↓k_dn, k_dp, k_dn, k_dT, k_dF, k_ip, k_in, if_true, if_false, ne_eq, not_true_eq_false, not_false_eq_true, Int.reduceAdd, zup_a, zup_e, zup_j, z32_id, k_al0, k_ic, k_pI, k_il1, k_v2r, k_ifeq, k_goto, k_ri, zb0_some, zb1_some, e244_0, e244_1, e244_2, e244_5, e244_6, e244_7, e244_10, e244_13, e244_14, e244_15, e244_18, e244_21, e244_22, e244_25, e244_26, e244_29, e244_30, rT_isQuestion, n2, if_neg c2]
