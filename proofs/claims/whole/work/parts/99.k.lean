/-! the fewest irons: the class's rows -/
def rB (S G : zM) (q h : Int) : Int := if (0 ≤ h ∧ h < G 0 7) ∧ zbit (S 3 q) h ≠ 0 ∧ zbit (S 0 8) h = 0 then sMin (Int.tdiv (S 2 h) (G 0 10)) (20 - S 1 h) else 0
def gB (S G : zM) (q h k : Int) : Int := if (0 ≤ h ∧ h < G 0 7) ∧ 0 ≤ k ∧ k ≤ rB S G q h then (if zbit (S 3 q) h ≠ 0 then sHn S G h 0 k else 0) else 0
theorem tdiv_bd {c p : Int} (c0 : 0 ≤ c) (c1 : c ≤ 999) (p0 : 1 ≤ p) : 0 ≤ Int.tdiv c p ∧ Int.tdiv c p ≤ 999 := by
  rw [Int.tdiv_eq_ediv_of_nonneg c0]
  have h1 : 0 ≤ c / p := Int.ediv_nonneg c0 (by omega)
  have h2 : c / p ≤ c := Int.ediv_le_self p c0
  omega
theorem rB_bd {S G : zM} {q : Int} (hS : okS S) (hG : okG G) (h : Int) : 0 ≤ rB S G q h ∧ rB S G q h ≤ 20 ∧ ((0 ≤ h ∧ h < G 0 7) → rB S G q h ≤ 20 - S 1 h) := by
  have g := hG.2.1
  have gp := hG.2.2.2.2.1
  unfold rB
  split
  · rename_i c
    have h1 := hS.2.2.2.1 h c.1.1 (by omega)
    have h2 := hS.2.2.2.2.1 h c.1.1 (by omega)
    have h3 := tdiv_bd h2.1 h2.2 gp.1
    unfold sMin
    split <;> omega
  · refine ⟨by omega, by omega, fun c => ?_⟩
    have h1 := hS.2.2.2.1 h c.1 (by omega)
    omega
theorem sHnk_bd {S G : zM} {h k w : Int} (hS : okS S) (h0 : 0 ≤ h) (h1 : h < 10) (w0 : 0 ≤ w) (w1 : w < 2) (k0 : 0 ≤ k) (k1 : k ≤ 20 - S 1 h) : 0 ≤ sHn S G h w k ∧ sHn S G h w k ≤ 40 := by
  obtain ⟨-, -, -, hI, -, -, -, -, -, -, hs⟩ := hS
  have := hI h h0 h1
  have := hs w w0 w1
  unfold sHn
  rw [z32_id (by omega) (by omega)]
  have := sNoise_bd (sil := S 0 8) (ch := G 0 9) (wea := S 0 9) (sand := S 8 w) (ir := S 1 h + k) (h := h) (by omega) (by omega) (by omega) (by omega)
  omega
theorem gB_bd {S G : zM} {q : Int} (hS : okS S) (hG : okG G) (h k : Int) : 0 ≤ gB S G q h k ∧ gB S G q h k ≤ 100 := by
  have g := hG.2.1
  unfold gB
  split
  · rename_i c
    have h1 := (rB_bd (q := q) hS hG h).2.2 c.1
    have h2 := sHnk_bd (G := G) (w := 0) hS c.1.1 (by omega) (by omega) (by omega) c.2.1 (by omega)
    split <;> omega
  · omega
theorem zit_mx {v : Int → Int} {b : Int} : ∀ n : Nat, zit (fun k b => sMax b (v k)) n 0 b = zmx v n b
  | 0 => rfl
  | n + 1 => by
    rw [zit_add, zit_mx n, Int.zero_add]
    rfl
theorem m75 (ph : Bool) (d : Nat) (a x0 p0 y0 p1 y1 p2 y2 p3 y3 : Int) (M : zM) : zEm ph (d + 1) 75 [(23, a, x0), (28, p0, y0), (26, p1, y1), (0, p2, y2), (0, p3, y3)] M = zEv ph d 75 0 [(23, a, x0), (28, p0, y0), (26, p1, y1), (0, p2, y2), (0, p3, y3)] [] M := rfl
theorem e75_0 (ph : Bool) (d : Nat) (L st : List zV) (M : zM) : zEv ph d 75 0 L st M = zcont ph d 75 (zstep ph (zEm ph d) 4 1 0 [0] L st M) := zEv_step rfl
theorem e75_1 (ph : Bool) (d : Nat) (L st : List zV) (M : zM) : zEv ph d 75 1 L st M = zcont ph d 75 (zstep ph (zEm ph d) 60 4 0 [23, 2] L st M) := zEv_step rfl
theorem e75_4 (ph : Bool) (d : Nat) (L st : List zV) (M : zM) : zEv ph d 75 4 L st M = zcont ph d 75 (zstep ph (zEm ph d) 2 5 0 [3] L st M) := zEv_step rfl
theorem e75_5 (ph : Bool) (d : Nat) (L st : List zV) (M : zM) : zEv ph d 75 5 L st M = zcont ph d 75 (zstep ph (zEm ph d) 20 6 0 [] L st M) := zEv_step rfl
theorem e75_6 (ph : Bool) (d : Nat) (L st : List zV) (M : zM) : zEv ph d 75 6 L st M = zcont ph d 75 (zstep ph (zEm ph d) 0 7 0 [1] L st M) := zEv_step rfl
theorem e75_7 (ph : Bool) (d : Nat) (L st : List zV) (M : zM) : zEv ph d 75 7 L st M = zcont ph d 75 (zstep ph (zEm ph d) 16 8 0 [] L st M) := zEv_step rfl
theorem e75_8 (ph : Bool) (d : Nat) (L st : List zV) (M : zM) : zEv ph d 75 8 L st M = zcont ph d 75 (zstep ph (zEm ph d) 40 11 23 [] L st M) := zEv_step rfl
theorem e75_11 (ph : Bool) (d : Nat) (L st : List zV) (M : zM) : zEv ph d 75 11 L st M = zcont ph d 75 (zstep ph (zEm ph d) 4 12 0 [2] L st M) := zEv_step rfl
theorem e75_12 (ph : Bool) (d : Nat) (L st : List zV) (M : zM) : zEv ph d 75 12 L st M = zcont ph d 75 (zstep ph (zEm ph d) 4 13 0 [1] L st M) := zEv_step rfl
theorem e75_13 (ph : Bool) (d : Nat) (L st : List zV) (M : zM) : zEv ph d 75 13 L st M = zcont ph d 75 (zstep ph (zEm ph d) 2 14 0 [3] L st M) := zEv_step rfl
theorem e75_14 (ph : Bool) (d : Nat) (L st : List zV) (M : zM) : zEv ph d 75 14 L st M = zcont ph d 75 (zstep ph (zEm ph d) 0 15 0 [0] L st M) := zEv_step rfl
theorem e75_15 (ph : Bool) (d : Nat) (L st : List zV) (M : zM) : zEv ph d 75 15 L st M = zcont ph d 75 (zstep ph (zEm ph d) 2 17 0 [4] L st M) := zEv_step rfl
theorem e75_17 (ph : Bool) (d : Nat) (L st : List zV) (M : zM) : zEv ph d 75 17 L st M = zcont ph d 75 (zstep ph (zEm ph d) 70 20 118 [5, 1, 26] L st M) := zEv_step rfl
theorem e75_20 (ph : Bool) (d : Nat) (L st : List zV) (M : zM) : zEv ph d 75 20 L st M = zcont ph d 75 (zstep ph (zEm ph d) 52 23 24 [] L st M) := zEv_step rfl
theorem e75_23 (ph : Bool) (d : Nat) (L st : List zV) (M : zM) : zEv ph d 75 23 L st M = zcont ph d 75 (zstep ph (zEm ph d) 0 24 0 [0] L st M) := zEv_step rfl
theorem e75_24 (ph : Bool) (d : Nat) (L st : List zV) (M : zM) : zEv ph d 75 24 L st M = zcont ph d 75 (zstep ph (zEm ph d) 80 25 0 [] L st M) := zEv_step rfl
theorem m74 (ph : Bool) (d : Nat) (a x0 p0 y0 p1 y1 : Int) (M : zM) : zEm ph (d + 1) 74 [(23, a, x0), (28, p0, y0), (26, p1, y1)] M = zEv ph d 74 0 [(23, a, x0), (28, p0, y0), (26, p1, y1), (3, 0, 0), (3, 0, 0), (3, 0, 0)] [] M := rfl
theorem e74_0 (ph : Bool) (d : Nat) (L st : List zV) (M : zM) : zEv ph d 74 0 L st M = zcont ph d 74 (zstep ph (zEm ph d) 0 1 0 [0] L st M) := zEv_step rfl
theorem e74_1 (ph : Bool) (d : Nat) (L st : List zV) (M : zM) : zEv ph d 74 1 L st M = zcont ph d 74 (zstep ph (zEm ph d) 5 2 0 [3] L st M) := zEv_step rfl
theorem e74_2 (ph : Bool) (d : Nat) (L st : List zV) (M : zM) : zEv ph d 74 2 L st M = zcont ph d 74 (zstep ph (zEm ph d) 2 3 0 [3] L st M) := zEv_step rfl
theorem e74_3 (ph : Bool) (d : Nat) (L st : List zV) (M : zM) : zEv ph d 74 3 L st M = zcont ph d 74 (zstep ph (zEm ph d) 4 4 0 [1] L st M) := zEv_step rfl
theorem e74_4 (ph : Bool) (d : Nat) (L st : List zV) (M : zM) : zEv ph d 74 4 L st M = zcont ph d 74 (zstep ph (zEm ph d) 60 7 0 [28, 7] L st M) := zEv_step rfl
theorem e74_7 (ph : Bool) (d : Nat) (L st : List zV) (M : zM) : zEv ph d 74 7 L st M = zcont ph d 74 (zstep ph (zEm ph d) 49 10 100 [] L st M) := zEv_step rfl
theorem e74_10 (ph : Bool) (d : Nat) (L st : List zV) (M : zM) : zEv ph d 74 10 L st M = zcont ph d 74 (zstep ph (zEm ph d) 4 11 0 [0] L st M) := zEv_step rfl
theorem e74_11 (ph : Bool) (d : Nat) (L st : List zV) (M : zM) : zEv ph d 74 11 L st M = zcont ph d 74 (zstep ph (zEm ph d) 60 14 0 [23, 2] L st M) := zEv_step rfl
theorem e74_14 (ph : Bool) (d : Nat) (L st : List zV) (M : zM) : zEv ph d 74 14 L st M = zcont ph d 74 (zstep ph (zEm ph d) 2 15 0 [3] L st M) := zEv_step rfl
theorem e74_15 (ph : Bool) (d : Nat) (L st : List zV) (M : zM) : zEv ph d 74 15 L st M = zcont ph d 74 (zstep ph (zEm ph d) 20 16 0 [] L st M) := zEv_step rfl
theorem e74_16 (ph : Bool) (d : Nat) (L st : List zV) (M : zM) : zEv ph d 74 16 L st M = zcont ph d 74 (zstep ph (zEm ph d) 0 17 0 [1] L st M) := zEv_step rfl
theorem e74_17 (ph : Bool) (d : Nat) (L st : List zV) (M : zM) : zEv ph d 74 17 L st M = zcont ph d 74 (zstep ph (zEm ph d) 16 18 0 [] L st M) := zEv_step rfl
theorem e74_18 (ph : Bool) (d : Nat) (L st : List zV) (M : zM) : zEv ph d 74 18 L st M = zcont ph d 74 (zstep ph (zEm ph d) 40 21 40 [] L st M) := zEv_step rfl
theorem e74_21 (ph : Bool) (d : Nat) (L st : List zV) (M : zM) : zEv ph d 74 21 L st M = zcont ph d 74 (zstep ph (zEm ph d) 4 22 0 [2] L st M) := zEv_step rfl
theorem e74_22 (ph : Bool) (d : Nat) (L st : List zV) (M : zM) : zEv ph d 74 22 L st M = zcont ph d 74 (zstep ph (zEm ph d) 2 23 0 [3] L st M) := zEv_step rfl
theorem e74_23 (ph : Bool) (d : Nat) (L st : List zV) (M : zM) : zEv ph d 74 23 L st M = zcont ph d 74 (zstep ph (zEm ph d) 70 26 114 [2, 1, 26] L st M) := zEv_step rfl
theorem e74_26 (ph : Bool) (d : Nat) (L st : List zV) (M : zM) : zEv ph d 74 26 L st M = zcont ph d 74 (zstep ph (zEm ph d) 41 29 40 [] L st M) := zEv_step rfl
theorem e74_29 (ph : Bool) (d : Nat) (L st : List zV) (M : zM) : zEv ph d 74 29 L st M = zcont ph d 74 (zstep ph (zEm ph d) 4 30 0 [1] L st M) := zEv_step rfl
theorem e74_30 (ph : Bool) (d : Nat) (L st : List zV) (M : zM) : zEv ph d 74 30 L st M = zcont ph d 74 (zstep ph (zEm ph d) 60 33 0 [28, 10] L st M) := zEv_step rfl
theorem e74_33 (ph : Bool) (d : Nat) (L st : List zV) (M : zM) : zEv ph d 74 33 L st M = zcont ph d 74 (zstep ph (zEm ph d) 45 36 40 [] L st M) := zEv_step rfl
theorem e74_36 (ph : Bool) (d : Nat) (L st : List zV) (M : zM) : zEv ph d 74 36 L st M = zcont ph d 74 (zstep ph (zEm ph d) 0 37 0 [1] L st M) := zEv_step rfl
theorem e74_37 (ph : Bool) (d : Nat) (L st : List zV) (M : zM) : zEv ph d 74 37 L st M = zcont ph d 74 (zstep ph (zEm ph d) 52 40 41 [] L st M) := zEv_step rfl
theorem e74_40 (ph : Bool) (d : Nat) (L st : List zV) (M : zM) : zEv ph d 74 40 L st M = zcont ph d 74 (zstep ph (zEm ph d) 0 41 0 [0] L st M) := zEv_step rfl
theorem e74_41 (ph : Bool) (d : Nat) (L st : List zV) (M : zM) : zEv ph d 74 41 L st M = zcont ph d 74 (zstep ph (zEm ph d) 5 43 0 [4] L st M) := zEv_step rfl
theorem e74_43 (ph : Bool) (d : Nat) (L st : List zV) (M : zM) : zEv ph d 74 43 L st M = zcont ph d 74 (zstep ph (zEm ph d) 2 45 0 [4] L st M) := zEv_step rfl
theorem e74_45 (ph : Bool) (d : Nat) (L st : List zV) (M : zM) : zEv ph d 74 45 L st M = zcont ph d 74 (zstep ph (zEm ph d) 40 48 62 [] L st M) := zEv_step rfl
theorem e74_48 (ph : Bool) (d : Nat) (L st : List zV) (M : zM) : zEv ph d 74 48 L st M = zcont ph d 74 (zstep ph (zEm ph d) 4 49 0 [2] L st M) := zEv_step rfl
theorem e74_49 (ph : Bool) (d : Nat) (L st : List zV) (M : zM) : zEv ph d 74 49 L st M = zcont ph d 74 (zstep ph (zEm ph d) 62 52 0 [26, 1, 2, 10, 10] L st M) := zEv_step rfl
theorem e74_52 (ph : Bool) (d : Nat) (L st : List zV) (M : zM) : zEv ph d 74 52 L st M = zcont ph d 74 (zstep ph (zEm ph d) 2 53 0 [3] L st M) := zEv_step rfl
theorem e74_53 (ph : Bool) (d : Nat) (L st : List zV) (M : zM) : zEv ph d 74 53 L st M = zcont ph d 74 (zstep ph (zEm ph d) 85 54 0 [] L st M) := zEv_step rfl
theorem e74_54 (ph : Bool) (d : Nat) (L st : List zV) (M : zM) : zEv ph d 74 54 L st M = zcont ph d 74 (zstep ph (zEm ph d) 4 55 0 [1] L st M) := zEv_step rfl
theorem e74_55 (ph : Bool) (d : Nat) (L st : List zV) (M : zM) : zEv ph d 74 55 L st M = zcont ph d 74 (zstep ph (zEm ph d) 60 58 0 [28, 10] L st M) := zEv_step rfl
theorem e74_58 (ph : Bool) (d : Nat) (L st : List zV) (M : zM) : zEv ph d 74 58 L st M = zcont ph d 74 (zstep ph (zEm ph d) 13 59 0 [] L st M) := zEv_step rfl
theorem e74_59 (ph : Bool) (d : Nat) (L st : List zV) (M : zM) : zEv ph d 74 59 L st M = zcont ph d 74 (zstep ph (zEm ph d) 52 62 63 [] L st M) := zEv_step rfl
theorem e74_62 (ph : Bool) (d : Nat) (L st : List zV) (M : zM) : zEv ph d 74 62 L st M = zcont ph d 74 (zstep ph (zEm ph d) 0 63 0 [0] L st M) := zEv_step rfl
theorem e74_63 (ph : Bool) (d : Nat) (L st : List zV) (M : zM) : zEv ph d 74 63 L st M = zcont ph d 74 (zstep ph (zEm ph d) 5 65 0 [5] L st M) := zEv_step rfl
theorem e74_65 (ph : Bool) (d : Nat) (L st : List zV) (M : zM) : zEv ph d 74 65 L st M = zcont ph d 74 (zstep ph (zEm ph d) 4 66 0 [0] L st M) := zEv_step rfl
theorem e74_66 (ph : Bool) (d : Nat) (L st : List zV) (M : zM) : zEv ph d 74 66 L st M = zcont ph d 74 (zstep ph (zEm ph d) 62 69 0 [23, 1, 2, 10, 10] L st M) := zEv_step rfl
theorem e74_69 (ph : Bool) (d : Nat) (L st : List zV) (M : zM) : zEv ph d 74 69 L st M = zcont ph d 74 (zstep ph (zEm ph d) 2 70 0 [3] L st M) := zEv_step rfl
theorem e74_70 (ph : Bool) (d : Nat) (L st : List zV) (M : zM) : zEv ph d 74 70 L st M = zcont ph d 74 (zstep ph (zEm ph d) 2 72 0 [4] L st M) := zEv_step rfl
theorem e74_72 (ph : Bool) (d : Nat) (L st : List zV) (M : zM) : zEv ph d 74 72 L st M = zcont ph d 74 (zstep ph (zEm ph d) 40 75 92 [] L st M) := zEv_step rfl
theorem e74_75 (ph : Bool) (d : Nat) (L st : List zV) (M : zM) : zEv ph d 74 75 L st M = zcont ph d 74 (zstep ph (zEm ph d) 2 77 0 [5] L st M) := zEv_step rfl
theorem e74_77 (ph : Bool) (d : Nat) (L st : List zV) (M : zM) : zEv ph d 74 77 L st M = zcont ph d 74 (zstep ph (zEm ph d) 0 79 0 [20] L st M) := zEv_step rfl
theorem e74_79 (ph : Bool) (d : Nat) (L st : List zV) (M : zM) : zEv ph d 74 79 L st M = zcont ph d 74 (zstep ph (zEm ph d) 4 80 0 [2] L st M) := zEv_step rfl
theorem e74_80 (ph : Bool) (d : Nat) (L st : List zV) (M : zM) : zEv ph d 74 80 L st M = zcont ph d 74 (zstep ph (zEm ph d) 62 83 0 [26, 0, 1, 10, 10] L st M) := zEv_step rfl
theorem e74_83 (ph : Bool) (d : Nat) (L st : List zV) (M : zM) : zEv ph d 74 83 L st M = zcont ph d 74 (zstep ph (zEm ph d) 2 84 0 [3] L st M) := zEv_step rfl
theorem e74_84 (ph : Bool) (d : Nat) (L st : List zV) (M : zM) : zEv ph d 74 84 L st M = zcont ph d 74 (zstep ph (zEm ph d) 85 85 0 [] L st M) := zEv_step rfl
theorem e74_85 (ph : Bool) (d : Nat) (L st : List zV) (M : zM) : zEv ph d 74 85 L st M = zcont ph d 74 (zstep ph (zEm ph d) 11 86 0 [] L st M) := zEv_step rfl
theorem e74_86 (ph : Bool) (d : Nat) (L st : List zV) (M : zM) : zEv ph d 74 86 L st M = zcont ph d 74 (zstep ph (zEm ph d) 72 89 0 [] L st M) := zEv_step rfl
theorem e74_89 (ph : Bool) (d : Nat) (L st : List zV) (M : zM) : zEv ph d 74 89 L st M = zcont ph d 74 (zstep ph (zEm ph d) 52 92 93 [] L st M) := zEv_step rfl
theorem e74_92 (ph : Bool) (d : Nat) (L st : List zV) (M : zM) : zEv ph d 74 92 L st M = zcont ph d 74 (zstep ph (zEm ph d) 0 93 0 [0] L st M) := zEv_step rfl
theorem e74_93 (ph : Bool) (d : Nat) (L st : List zV) (M : zM) : zEv ph d 74 93 L st M = zcont ph d 74 (zstep ph (zEm ph d) 89 94 0 [] L st M) := zEv_step rfl
theorem e74_94 (ph : Bool) (d : Nat) (L st : List zV) (M : zM) : zEv ph d 74 94 L st M = zcont ph d 74 (zstep ph (zEm ph d) 8 97 0 [3, 1] L st M) := zEv_step rfl
theorem e74_97 (ph : Bool) (d : Nat) (L st : List zV) (M : zM) : zEv ph d 74 97 L st M = zcont ph d 74 (zstep ph (zEm ph d) 52 100 2 [] L st M) := zEv_step rfl
theorem e74_100 (ph : Bool) (d : Nat) (L st : List zV) (M : zM) : zEv ph d 74 100 L st M = zcont ph d 74 (zstep ph (zEm ph d) 83 101 0 [] L st M) := zEv_step rfl
theorem m76 (ph : Bool) (d : Nat) (a x0 p0 y0 p1 y1 : Int) (M : zM) : zEm ph (d + 1) 76 [(23, a, x0), (28, p0, y0), (26, p1, y1)] M = zEv ph d 76 0 [(23, a, x0), (28, p0, y0), (26, p1, y1), (3, 0, 0), (3, 0, 0), (3, 0, 0), (3, 0, 0), (3, 0, 0)] [] M := rfl
theorem e76_0 (ph : Bool) (d : Nat) (L st : List zV) (M : zM) : zEv ph d 76 0 L st M = zcont ph d 76 (zstep ph (zEm ph d) 0 1 0 [0] L st M) := zEv_step rfl
theorem e76_1 (ph : Bool) (d : Nat) (L st : List zV) (M : zM) : zEv ph d 76 1 L st M = zcont ph d 76 (zstep ph (zEm ph d) 5 2 0 [3] L st M) := zEv_step rfl
theorem e76_2 (ph : Bool) (d : Nat) (L st : List zV) (M : zM) : zEv ph d 76 2 L st M = zcont ph d 76 (zstep ph (zEm ph d) 2 3 0 [3] L st M) := zEv_step rfl
theorem e76_3 (ph : Bool) (d : Nat) (L st : List zV) (M : zM) : zEv ph d 76 3 L st M = zcont ph d 76 (zstep ph (zEm ph d) 0 6 0 [200] L st M) := zEv_step rfl
theorem e76_6 (ph : Bool) (d : Nat) (L st : List zV) (M : zM) : zEv ph d 76 6 L st M = zcont ph d 76 (zstep ph (zEm ph d) 50 9 31 [] L st M) := zEv_step rfl
theorem e76_9 (ph : Bool) (d : Nat) (L st : List zV) (M : zM) : zEv ph d 76 9 L st M = zcont ph d 76 (zstep ph (zEm ph d) 4 10 0 [0] L st M) := zEv_step rfl
theorem e76_10 (ph : Bool) (d : Nat) (L st : List zV) (M : zM) : zEv ph d 76 10 L st M = zcont ph d 76 (zstep ph (zEm ph d) 62 13 0 [23, 0, 1, 10, 2211] L st M) := zEv_step rfl
theorem e76_13 (ph : Bool) (d : Nat) (L st : List zV) (M : zM) : zEv ph d 76 13 L st M = zcont ph d 76 (zstep ph (zEm ph d) 4 14 0 [1] L st M) := zEv_step rfl
theorem e76_14 (ph : Bool) (d : Nat) (L st : List zV) (M : zM) : zEv ph d 76 14 L st M = zcont ph d 76 (zstep ph (zEm ph d) 60 17 0 [28, 7] L st M) := zEv_step rfl
theorem e76_17 (ph : Bool) (d : Nat) (L st : List zV) (M : zM) : zEv ph d 76 17 L st M = zcont ph d 76 (zstep ph (zEm ph d) 0 20 0 [201] L st M) := zEv_step rfl
theorem e76_20 (ph : Bool) (d : Nat) (L st : List zV) (M : zM) : zEv ph d 76 20 L st M = zcont ph d 76 (zstep ph (zEm ph d) 12 21 0 [] L st M) := zEv_step rfl
theorem e76_21 (ph : Bool) (d : Nat) (L st : List zV) (M : zM) : zEv ph d 76 21 L st M = zcont ph d 76 (zstep ph (zEm ph d) 2 22 0 [3] L st M) := zEv_step rfl
theorem e76_22 (ph : Bool) (d : Nat) (L st : List zV) (M : zM) : zEv ph d 76 22 L st M = zcont ph d 76 (zstep ph (zEm ph d) 10 23 0 [] L st M) := zEv_step rfl
theorem e76_23 (ph : Bool) (d : Nat) (L st : List zV) (M : zM) : zEv ph d 76 23 L st M = zcont ph d 76 (zstep ph (zEm ph d) 0 24 0 [0] L st M) := zEv_step rfl
theorem e76_24 (ph : Bool) (d : Nat) (L st : List zV) (M : zM) : zEv ph d 76 24 L st M = zcont ph d 76 (zstep ph (zEm ph d) 89 25 0 [] L st M) := zEv_step rfl
theorem e76_25 (ph : Bool) (d : Nat) (L st : List zV) (M : zM) : zEv ph d 76 25 L st M = zcont ph d 76 (zstep ph (zEm ph d) 8 28 0 [3, 1] L st M) := zEv_step rfl
theorem e76_28 (ph : Bool) (d : Nat) (L st : List zV) (M : zM) : zEv ph d 76 28 L st M = zcont ph d 76 (zstep ph (zEm ph d) 52 31 2 [] L st M) := zEv_step rfl
theorem e76_31 (ph : Bool) (d : Nat) (L st : List zV) (M : zM) : zEv ph d 76 31 L st M = zcont ph d 76 (zstep ph (zEm ph d) 4 32 0 [1] L st M) := zEv_step rfl
theorem e76_32 (ph : Bool) (d : Nat) (L st : List zV) (M : zM) : zEv ph d 76 32 L st M = zcont ph d 76 (zstep ph (zEm ph d) 60 35 0 [28, 7] L st M) := zEv_step rfl
theorem e76_35 (ph : Bool) (d : Nat) (L st : List zV) (M : zM) : zEv ph d 76 35 L st M = zcont ph d 76 (zstep ph (zEm ph d) 0 36 0 [1] L st M) := zEv_step rfl
theorem e76_36 (ph : Bool) (d : Nat) (L st : List zV) (M : zM) : zEv ph d 76 36 L st M = zcont ph d 76 (zstep ph (zEm ph d) 11 37 0 [] L st M) := zEv_step rfl
theorem e76_37 (ph : Bool) (d : Nat) (L st : List zV) (M : zM) : zEv ph d 76 37 L st M = zcont ph d 76 (zstep ph (zEm ph d) 5 38 0 [3] L st M) := zEv_step rfl
theorem e76_38 (ph : Bool) (d : Nat) (L st : List zV) (M : zM) : zEv ph d 76 38 L st M = zcont ph d 76 (zstep ph (zEm ph d) 2 39 0 [3] L st M) := zEv_step rfl
theorem e76_39 (ph : Bool) (d : Nat) (L st : List zV) (M : zM) : zEv ph d 76 39 L st M = zcont ph d 76 (zstep ph (zEm ph d) 42 42 149 [] L st M) := zEv_step rfl
theorem e76_42 (ph : Bool) (d : Nat) (L st : List zV) (M : zM) : zEv ph d 76 42 L st M = zcont ph d 76 (zstep ph (zEm ph d) 0 43 0 [0] L st M) := zEv_step rfl
theorem e76_43 (ph : Bool) (d : Nat) (L st : List zV) (M : zM) : zEv ph d 76 43 L st M = zcont ph d 76 (zstep ph (zEm ph d) 5 45 0 [4] L st M) := zEv_step rfl
theorem e76_45 (ph : Bool) (d : Nat) (L st : List zV) (M : zM) : zEv ph d 76 45 L st M = zcont ph d 76 (zstep ph (zEm ph d) 2 47 0 [4] L st M) := zEv_step rfl
theorem e76_47 (ph : Bool) (d : Nat) (L st : List zV) (M : zM) : zEv ph d 76 47 L st M = zcont ph d 76 (zstep ph (zEm ph d) 0 50 0 [200] L st M) := zEv_step rfl
theorem e76_50 (ph : Bool) (d : Nat) (L st : List zV) (M : zM) : zEv ph d 76 50 L st M = zcont ph d 76 (zstep ph (zEm ph d) 50 53 143 [] L st M) := zEv_step rfl
theorem e76_53 (ph : Bool) (d : Nat) (L st : List zV) (M : zM) : zEv ph d 76 53 L st M = zcont ph d 76 (zstep ph (zEm ph d) 0 54 0 [0] L st M) := zEv_step rfl
theorem e76_54 (ph : Bool) (d : Nat) (L st : List zV) (M : zM) : zEv ph d 76 54 L st M = zcont ph d 76 (zstep ph (zEm ph d) 5 56 0 [5] L st M) := zEv_step rfl
theorem e76_56 (ph : Bool) (d : Nat) (L st : List zV) (M : zM) : zEv ph d 76 56 L st M = zcont ph d 76 (zstep ph (zEm ph d) 0 57 0 [0] L st M) := zEv_step rfl
theorem e76_57 (ph : Bool) (d : Nat) (L st : List zV) (M : zM) : zEv ph d 76 57 L st M = zcont ph d 76 (zstep ph (zEm ph d) 5 59 0 [6] L st M) := zEv_step rfl
theorem e76_59 (ph : Bool) (d : Nat) (L st : List zV) (M : zM) : zEv ph d 76 59 L st M = zcont ph d 76 (zstep ph (zEm ph d) 2 61 0 [6] L st M) := zEv_step rfl
theorem e76_61 (ph : Bool) (d : Nat) (L st : List zV) (M : zM) : zEv ph d 76 61 L st M = zcont ph d 76 (zstep ph (zEm ph d) 4 62 0 [0] L st M) := zEv_step rfl
theorem e76_62 (ph : Bool) (d : Nat) (L st : List zV) (M : zM) : zEv ph d 76 62 L st M = zcont ph d 76 (zstep ph (zEm ph d) 62 65 0 [23, 1, 2, 10, 10] L st M) := zEv_step rfl
theorem e76_65 (ph : Bool) (d : Nat) (L st : List zV) (M : zM) : zEv ph d 76 65 L st M = zcont ph d 76 (zstep ph (zEm ph d) 2 66 0 [3] L st M) := zEv_step rfl
theorem e76_66 (ph : Bool) (d : Nat) (L st : List zV) (M : zM) : zEv ph d 76 66 L st M = zcont ph d 76 (zstep ph (zEm ph d) 85 67 0 [] L st M) := zEv_step rfl
theorem e76_67 (ph : Bool) (d : Nat) (L st : List zV) (M : zM) : zEv ph d 76 67 L st M = zcont ph d 76 (zstep ph (zEm ph d) 50 70 122 [] L st M) := zEv_step rfl
theorem e76_70 (ph : Bool) (d : Nat) (L st : List zV) (M : zM) : zEv ph d 76 70 L st M = zcont ph d 76 (zstep ph (zEm ph d) 2 72 0 [6] L st M) := zEv_step rfl
theorem e76_72 (ph : Bool) (d : Nat) (L st : List zV) (M : zM) : zEv ph d 76 72 L st M = zcont ph d 76 (zstep ph (zEm ph d) 2 74 0 [4] L st M) := zEv_step rfl
theorem e76_74 (ph : Bool) (d : Nat) (L st : List zV) (M : zM) : zEv ph d 76 74 L st M = zcont ph d 76 (zstep ph (zEm ph d) 50 77 122 [] L st M) := zEv_step rfl
theorem e76_77 (ph : Bool) (d : Nat) (L st : List zV) (M : zM) : zEv ph d 76 77 L st M = zcont ph d 76 (zstep ph (zEm ph d) 4 78 0 [0] L st M) := zEv_step rfl
theorem e76_78 (ph : Bool) (d : Nat) (L st : List zV) (M : zM) : zEv ph d 76 78 L st M = zcont ph d 76 (zstep ph (zEm ph d) 4 79 0 [1] L st M) := zEv_step rfl
theorem e76_79 (ph : Bool) (d : Nat) (L st : List zV) (M : zM) : zEv ph d 76 79 L st M = zcont ph d 76 (zstep ph (zEm ph d) 4 80 0 [2] L st M) := zEv_step rfl
theorem e76_80 (ph : Bool) (d : Nat) (L st : List zV) (M : zM) : zEv ph d 76 80 L st M = zcont ph d 76 (zstep ph (zEm ph d) 2 81 0 [3] L st M) := zEv_step rfl
theorem e76_81 (ph : Bool) (d : Nat) (L st : List zV) (M : zM) : zEv ph d 76 81 L st M = zcont ph d 76 (zstep ph (zEm ph d) 2 83 0 [6] L st M) := zEv_step rfl
theorem e76_83 (ph : Bool) (d : Nat) (L st : List zV) (M : zM) : zEv ph d 76 83 L st M = zcont ph d 76 (zstep ph (zEm ph d) 70 86 75 [5, 1, 23] L st M) := zEv_step rfl
theorem e76_86 (ph : Bool) (d : Nat) (L st : List zV) (M : zM) : zEv ph d 76 86 L st M = zcont ph d 76 (zstep ph (zEm ph d) 4 87 0 [0] L st M) := zEv_step rfl
theorem e76_87 (ph : Bool) (d : Nat) (L st : List zV) (M : zM) : zEv ph d 76 87 L st M = zcont ph d 76 (zstep ph (zEm ph d) 62 90 0 [23, 0, 1, 10, 2211] L st M) := zEv_step rfl
theorem e76_90 (ph : Bool) (d : Nat) (L st : List zV) (M : zM) : zEv ph d 76 90 L st M = zcont ph d 76 (zstep ph (zEm ph d) 2 91 0 [3] L st M) := zEv_step rfl
theorem e76_91 (ph : Bool) (d : Nat) (L st : List zV) (M : zM) : zEv ph d 76 91 L st M = zcont ph d 76 (zstep ph (zEm ph d) 0 92 0 [1] L st M) := zEv_step rfl
theorem e76_92 (ph : Bool) (d : Nat) (L st : List zV) (M : zM) : zEv ph d 76 92 L st M = zcont ph d 76 (zstep ph (zEm ph d) 10 93 0 [] L st M) := zEv_step rfl
theorem e76_93 (ph : Bool) (d : Nat) (L st : List zV) (M : zM) : zEv ph d 76 93 L st M = zcont ph d 76 (zstep ph (zEm ph d) 0 96 0 [201] L st M) := zEv_step rfl
theorem e76_96 (ph : Bool) (d : Nat) (L st : List zV) (M : zM) : zEv ph d 76 96 L st M = zcont ph d 76 (zstep ph (zEm ph d) 12 97 0 [] L st M) := zEv_step rfl
theorem e76_97 (ph : Bool) (d : Nat) (L st : List zV) (M : zM) : zEv ph d 76 97 L st M = zcont ph d 76 (zstep ph (zEm ph d) 2 99 0 [4] L st M) := zEv_step rfl
theorem e76_99 (ph : Bool) (d : Nat) (L st : List zV) (M : zM) : zEv ph d 76 99 L st M = zcont ph d 76 (zstep ph (zEm ph d) 10 100 0 [] L st M) := zEv_step rfl
theorem e76_100 (ph : Bool) (d : Nat) (L st : List zV) (M : zM) : zEv ph d 76 100 L st M = zcont ph d 76 (zstep ph (zEm ph d) 2 102 0 [6] L st M) := zEv_step rfl
theorem e76_102 (ph : Bool) (d : Nat) (L st : List zV) (M : zM) : zEv ph d 76 102 L st M = zcont ph d 76 (zstep ph (zEm ph d) 11 103 0 [] L st M) := zEv_step rfl
theorem e76_103 (ph : Bool) (d : Nat) (L st : List zV) (M : zM) : zEv ph d 76 103 L st M = zcont ph d 76 (zstep ph (zEm ph d) 85 104 0 [] L st M) := zEv_step rfl
theorem e76_104 (ph : Bool) (d : Nat) (L st : List zV) (M : zM) : zEv ph d 76 104 L st M = zcont ph d 76 (zstep ph (zEm ph d) 10 105 0 [] L st M) := zEv_step rfl
theorem e76_105 (ph : Bool) (d : Nat) (L st : List zV) (M : zM) : zEv ph d 76 105 L st M = zcont ph d 76 (zstep ph (zEm ph d) 5 107 0 [7] L st M) := zEv_step rfl
theorem e76_107 (ph : Bool) (d : Nat) (L st : List zV) (M : zM) : zEv ph d 76 107 L st M = zcont ph d 76 (zstep ph (zEm ph d) 2 109 0 [5] L st M) := zEv_step rfl
theorem e76_109 (ph : Bool) (d : Nat) (L st : List zV) (M : zM) : zEv ph d 76 109 L st M = zcont ph d 76 (zstep ph (zEm ph d) 2 111 0 [7] L st M) := zEv_step rfl
theorem e76_111 (ph : Bool) (d : Nat) (L st : List zV) (M : zM) : zEv ph d 76 111 L st M = zcont ph d 76 (zstep ph (zEm ph d) 71 114 0 [] L st M) := zEv_step rfl
theorem e76_114 (ph : Bool) (d : Nat) (L st : List zV) (M : zM) : zEv ph d 76 114 L st M = zcont ph d 76 (zstep ph (zEm ph d) 5 116 0 [5] L st M) := zEv_step rfl
theorem e76_116 (ph : Bool) (d : Nat) (L st : List zV) (M : zM) : zEv ph d 76 116 L st M = zcont ph d 76 (zstep ph (zEm ph d) 8 119 0 [6, 1] L st M) := zEv_step rfl
theorem e76_119 (ph : Bool) (d : Nat) (L st : List zV) (M : zM) : zEv ph d 76 119 L st M = zcont ph d 76 (zstep ph (zEm ph d) 52 122 59 [] L st M) := zEv_step rfl
theorem e76_122 (ph : Bool) (d : Nat) (L st : List zV) (M : zM) : zEv ph d 76 122 L st M = zcont ph d 76 (zstep ph (zEm ph d) 4 123 0 [0] L st M) := zEv_step rfl
theorem e76_123 (ph : Bool) (d : Nat) (L st : List zV) (M : zM) : zEv ph d 76 123 L st M = zcont ph d 76 (zstep ph (zEm ph d) 62 126 0 [23, 0, 1, 10, 2211] L st M) := zEv_step rfl
theorem e76_126 (ph : Bool) (d : Nat) (L st : List zV) (M : zM) : zEv ph d 76 126 L st M = zcont ph d 76 (zstep ph (zEm ph d) 2 127 0 [3] L st M) := zEv_step rfl
theorem e76_127 (ph : Bool) (d : Nat) (L st : List zV) (M : zM) : zEv ph d 76 127 L st M = zcont ph d 76 (zstep ph (zEm ph d) 0 130 0 [201] L st M) := zEv_step rfl
theorem e76_130 (ph : Bool) (d : Nat) (L st : List zV) (M : zM) : zEv ph d 76 130 L st M = zcont ph d 76 (zstep ph (zEm ph d) 12 131 0 [] L st M) := zEv_step rfl
theorem e76_131 (ph : Bool) (d : Nat) (L st : List zV) (M : zM) : zEv ph d 76 131 L st M = zcont ph d 76 (zstep ph (zEm ph d) 2 133 0 [4] L st M) := zEv_step rfl
theorem e76_133 (ph : Bool) (d : Nat) (L st : List zV) (M : zM) : zEv ph d 76 133 L st M = zcont ph d 76 (zstep ph (zEm ph d) 10 134 0 [] L st M) := zEv_step rfl
theorem e76_134 (ph : Bool) (d : Nat) (L st : List zV) (M : zM) : zEv ph d 76 134 L st M = zcont ph d 76 (zstep ph (zEm ph d) 2 136 0 [5] L st M) := zEv_step rfl
theorem e76_136 (ph : Bool) (d : Nat) (L st : List zV) (M : zM) : zEv ph d 76 136 L st M = zcont ph d 76 (zstep ph (zEm ph d) 89 137 0 [] L st M) := zEv_step rfl
theorem e76_137 (ph : Bool) (d : Nat) (L st : List zV) (M : zM) : zEv ph d 76 137 L st M = zcont ph d 76 (zstep ph (zEm ph d) 8 140 0 [4, 1] L st M) := zEv_step rfl
theorem e76_140 (ph : Bool) (d : Nat) (L st : List zV) (M : zM) : zEv ph d 76 140 L st M = zcont ph d 76 (zstep ph (zEm ph d) 52 143 45 [] L st M) := zEv_step rfl
theorem e76_143 (ph : Bool) (d : Nat) (L st : List zV) (M : zM) : zEv ph d 76 143 L st M = zcont ph d 76 (zstep ph (zEm ph d) 8 146 0 [3, -1] L st M) := zEv_step rfl
theorem e76_146 (ph : Bool) (d : Nat) (L st : List zV) (M : zM) : zEv ph d 76 146 L st M = zcont ph d 76 (zstep ph (zEm ph d) 52 149 38 [] L st M) := zEv_step rfl
theorem e76_149 (ph : Bool) (d : Nat) (L st : List zV) (M : zM) : zEv ph d 76 149 L st M = zcont ph d 76 (zstep ph (zEm ph d) 83 150 0 [] L st M) := zEv_step rfl
theorem c_loudWith (d : Nat) (x0 h y k y2 : Int) (N : zM) (q : Int) (h56 : N 56 2 = zvS N 37 3 q) (h0 : 0 ≤ h) (h1 : h < 10) : zEm true (d + 3) 75 [(23, 56, x0), (28, 30, 0), (26, 37, 0), (0, h, y), (0, k, y2)] N = some ((0, if zbit (zvS N 37 3 q) h ≠ 0 then sHn (zvS N 37) (zvG N 30) h 0 k else 0, 0), N) := by
  rw [← h56]
  by_cases c : zbit (N 56 2) h = 0
  · have c2 := c
    unfold zbit at c2
    simp (disch := first | assumption | exact zrm0 | exact zrm1 _ | exact zrm2 _ _ | exact zrm3 _ _ _ | exact zrm4 _ _ _ _ | omega) only [m75, ↓k_dp, ↓k_dn, k_dp, k_dn, k_dT, k_dF, k_ip, k_in, if_true, if_false, ne_eq, not_true_eq_false, not_false_eq_true, Int.reduceAdd, zup_a, zup_e, zup_j, z32_id, k_al0, k_gI, k_il3, k_ishr, k_ic, k_iand, k_ifeq, k_al2, k_al1, k_il4, k_v5r, k_goto, k_ri, zb0_some, zb1_some, e75_0, e75_1, e75_4, e75_5, e75_6, e75_7, e75_8, e75_11, e75_12, e75_13, e75_14, e75_15, e75_17, e75_20, e75_23, e75_24, c, c2]
  · have c2 := c
    unfold zbit at c2
    simp (disch := first | assumption | exact zrm0 | exact zrm1 _ | exact zrm2 _ _ | exact zrm3 _ _ _ | exact zrm4 _ _ _ _ | omega) only [m75, ↓k_dp, ↓k_dn, k_dp, k_dn, k_dT, k_dF, k_ip, k_in, if_true, if_false, ne_eq, not_true_eq_false, not_false_eq_true, Int.reduceAdd, zup_a, zup_e, zup_j, z32_id, k_al0, k_gI, k_il3, k_ishr, k_ic, k_iand, k_ifeq, k_al2, k_al1, k_il4, k_v5r, k_goto, k_ri, zb0_some, zb1_some, e75_0, e75_1, e75_4, e75_5, e75_6, e75_7, e75_8, e75_11, e75_12, e75_13, e75_14, e75_15, e75_17, e75_20, e75_23, e75_24, s_handNoise, c, c2]
theorem c_measureRoom (d : Nat) (x0 : Int) (N : zM) (q : Int) (h56 : N 56 2 = zvS N 37 3 q) (hS : okS (zvS N 37)) (hG : okG (zvG N 30)) : zEm true (d + 3) 74 [(23, 56, x0), (28, 30, 0), (26, 37, 0)] N = some ((98, 0, 0), zit (fun h U => zup U 58 h (rB (zvS N 37) (zvG N 30) q h)) (N 30 7).toNat 0 N) := by
  have hG2 := hG
  obtain ⟨⟨g6, g6'⟩, ⟨g1, g2⟩, -, -, ⟨gp, gp'⟩, -⟩ := okG_M hG2
  have e7 : zvG N 30 0 7 = N 30 7 := zvG_0 (by omega) (by omega)
  have ep : zvG N 30 0 10 = N 30 10 := zvG_0 (by omega) (by omega)
  have e8 : zvS N 37 0 8 = N 37 8 := zvS_0 (by omega) (by omega)
  have hl := zfor (α := zM × zV × zV) (ph := true) (d := d + 2) (j := 74) (pc := 2) (fun h p => (zup p.1 58 h (rB (zvS N 37) (zvG N 30) q h), (0, if zbit (zvS N 37 3 q) h ≠ 0 ∧ zbit (N 37 8) h = 0 then 1 else 0, 0), (0, if zbit (zvS N 37 3 q) h ≠ 0 ∧ zbit (N 37 8) h = 0 then Int.tdiv (N 39 h) (N 30 10) else 0, 0))) (fun h p => 0 ≤ h ∧ ∀ x y, x ≠ 58 → p.1 x y = N x y) (fun h p => [(23, 56, x0), (28, 30, 0), (26, 37, 0), (0, h, 0), p.2.1, p.2.2]) (fun p => p.1) (N 30 7)
    (fun h p hk hp => by
      obtain ⟨U, l4, l5⟩ := p
      obtain ⟨h0, hU⟩ := hp
      dsimp only at hU ⊢
      have h10 : h < 10 := by omega
      have hh : 0 ≤ h ∧ h < zvG N 30 0 7 := ⟨h0, by rw [e7]; exact hk⟩
      have e1 : zvS N 37 1 h = N 38 h := zvS_1 h0 h10
      have e2 : zvS N 37 2 h = N 39 h := zvS_2 h0 h10
      have b2 := hS.2.2.2.2.1 h h0 h10
      have b1 := hS.2.2.2.1 h h0 h10
      rw [e2] at b2
      rw [e1] at b1
      have h3 := tdiv_bd b2.1 b2.2 gp
      have u1 : U 30 7 = N 30 7 := hU _ _ (by omega)
      have u2 : U 56 2 = zvS N 37 3 q := by rw [hU _ _ (by omega)]; exact h56
      have u3 : U 37 8 = N 37 8 := hU _ _ (by omega)
      have u4 : U 30 10 = N 30 10 := hU _ _ (by omega)
      have u5 : U 39 h = N 39 h := hU _ _ (by omega)
      have u6 : U 38 h = N 38 h := hU _ _ (by omega)
      refine ⟨?_, by omega, fun x y hx => by rw [zup_a hx]; exact hU x y hx⟩
      rw [e74_2]
      by_cases c1 : zbit (zvS N 37 3 q) h = 0
      · have c2 := c1
        unfold zbit at c2
        have hr : rB (zvS N 37) (zvG N 30) q h = 0 := by unfold rB; rw [if_neg (fun z => z.2.1 c1)]
        have hb : ¬ (zbit (zvS N 37 3 q) h ≠ 0 ∧ zbit (N 37 8) h = 0) := fun z => z.1 c1
        rw [hr, if_neg hb, if_neg hb]
        simp (disch := first | assumption | exact zrm0 | exact zrm1 _ | exact zrm2 _ _ | exact zrm3 _ _ _ | exact zrm4 _ _ _ _ | omega) only [m74, ↓k_dp, ↓k_dn, k_dp, k_dn, k_dT, k_dF, k_ip, k_in, if_true, if_false, ne_eq, not_true_eq_false, not_false_eq_true, Int.reduceAdd, zup_a, zup_e, zup_j, z32_id, k_ic, k_is3, k_il3, k_al1, k_gI, k_icge, k_al0, k_ishr, k_iand, k_ifeq, k_al2, k_v2r, k_ifne, k_ifle, k_goto, k_is4, k_il4, k_gR, k_ild, k_ildS, k_ildW, k_idiv, k_is5, k_il5, k_isub, k_min, k_ist, k_inc3, k_rv, zb0_some, zb1_some, e74_0, e74_1, e74_3, e74_4, e74_7, e74_10, e74_11, e74_14, e74_15, e74_16, e74_17, e74_18, e74_21, e74_22, e74_23, e74_26, e74_29, e74_30, e74_33, e74_36, e74_37, e74_40, e74_41, e74_43, e74_45, e74_48, e74_49, e74_52, e74_53, e74_54, e74_55, e74_58, e74_59, e74_62, e74_63, e74_65, e74_66, e74_69, e74_70, e74_72, e74_75, e74_77, e74_79, e74_80, e74_83, e74_84, e74_85, e74_86, e74_89, e74_92, e74_93, e74_94, e74_97, e74_100, u1, u2, c2]
      · have c2 := c1
        unfold zbit at c2
        by_cases c3 : zbit (N 37 8) h = 0
        · have hr : rB (zvS N 37) (zvG N 30) q h = sMin (Int.tdiv (N 39 h) (N 30 10)) (20 - N 38 h) := by unfold rB; rw [if_pos ⟨hh, c1, by rw [e8]; exact c3⟩, e1, e2, ep]
          have hb : zbit (zvS N 37 3 q) h ≠ 0 ∧ zbit (N 37 8) h = 0 := ⟨c1, c3⟩
          rw [hr, if_pos hb, if_pos hb]
          unfold sMin
          simp (disch := first | assumption | exact zrm0 | exact zrm1 _ | exact zrm2 _ _ | exact zrm3 _ _ _ | exact zrm4 _ _ _ _ | omega) only [m74, ↓k_dp, ↓k_dn, k_dp, k_dn, k_dT, k_dF, k_ip, k_in, if_true, if_false, ne_eq, not_true_eq_false, not_false_eq_true, Int.reduceAdd, zup_a, zup_e, zup_j, z32_id, k_ic, k_is3, k_il3, k_al1, k_gI, k_icge, k_al0, k_ishr, k_iand, k_ifeq, k_al2, k_v2r, k_ifne, k_ifle, k_goto, k_is4, k_il4, k_gR, k_ild, k_ildS, k_ildW, k_idiv, k_is5, k_il5, k_isub, k_min, k_ist, k_inc3, k_rv, zb0_some, zb1_some, e74_0, e74_1, e74_3, e74_4, e74_7, e74_10, e74_11, e74_14, e74_15, e74_16, e74_17, e74_18, e74_21, e74_22, e74_23, e74_26, e74_29, e74_30, e74_33, e74_36, e74_37, e74_40, e74_41, e74_43, e74_45, e74_48, e74_49, e74_52, e74_53, e74_54, e74_55, e74_58, e74_59, e74_62, e74_63, e74_65, e74_66, e74_69, e74_70, e74_72, e74_75, e74_77, e74_79, e74_80, e74_83, e74_84, e74_85, e74_86, e74_89, e74_92, e74_93, e74_94, e74_97, e74_100, u1, u2, c2, s_isSilent, u3, c3, u4, u5, u6]
        · have hr : rB (zvS N 37) (zvG N 30) q h = 0 := by unfold rB; rw [if_neg (fun z => c3 (by rw [← e8]; exact z.2.2))]
          have hb : ¬ (zbit (zvS N 37 3 q) h ≠ 0 ∧ zbit (N 37 8) h = 0) := fun z => c3 z.2
          rw [hr, if_neg hb, if_neg hb]
          simp (disch := first | assumption | exact zrm0 | exact zrm1 _ | exact zrm2 _ _ | exact zrm3 _ _ _ | exact zrm4 _ _ _ _ | omega) only [m74, ↓k_dp, ↓k_dn, k_dp, k_dn, k_dT, k_dF, k_ip, k_in, if_true, if_false, ne_eq, not_true_eq_false, not_false_eq_true, Int.reduceAdd, zup_a, zup_e, zup_j, z32_id, k_ic, k_is3, k_il3, k_al1, k_gI, k_icge, k_al0, k_ishr, k_iand, k_ifeq, k_al2, k_v2r, k_ifne, k_ifle, k_goto, k_is4, k_il4, k_gR, k_ild, k_ildS, k_ildW, k_idiv, k_is5, k_il5, k_isub, k_min, k_ist, k_inc3, k_rv, zb0_some, zb1_some, e74_0, e74_1, e74_3, e74_4, e74_7, e74_10, e74_11, e74_14, e74_15, e74_16, e74_17, e74_18, e74_21, e74_22, e74_23, e74_26, e74_29, e74_30, e74_33, e74_36, e74_37, e74_40, e74_41, e74_43, e74_45, e74_48, e74_49, e74_52, e74_53, e74_54, e74_55, e74_58, e74_59, e74_62, e74_63, e74_65, e74_66, e74_69, e74_70, e74_72, e74_75, e74_77, e74_79, e74_80, e74_83, e74_84, e74_85, e74_86, e74_89, e74_92, e74_93, e74_94, e74_97, e74_100, u1, u2, c2, s_isSilent, u3, c3]) (N 30 7).toNat 0 (N, (3, 0, 0), (3, 0, 0)) (by omega) ⟨Int.le_refl _, fun _ _ _ => rfl⟩
  have hf := zit_fst (F := fun (h : Int) (p : zM × zV × zV) => (zup p.1 58 h (rB (zvS N 37) (zvG N 30) q h), (((0, if zbit (zvS N 37 3 q) h ≠ 0 ∧ zbit (N 37 8) h = 0 then 1 else 0, 0) : zV), ((0, if zbit (zvS N 37 3 q) h ≠ 0 ∧ zbit (N 37 8) h = 0 then Int.tdiv (N 39 h) (N 30 10) else 0, 0) : zV)))) (f := fun h U => zup U 58 h (rB (zvS N 37) (zvG N 30) q h)) (fun _ _ => rfl) (N 30 7).toNat 0 (N, (3, 0, 0), (3, 0, 0))
  dsimp only at hf
  rw [← hf]
  obtain ⟨h1, -, h2⟩ := hl
  dsimp only at h1
  simp (disch := first | assumption | exact zrm0 | exact zrm1 _ | exact zrm2 _ _ | exact zrm3 _ _ _ | exact zrm4 _ _ _ _ | omega) only [m74, ↓k_dp, ↓k_dn, k_dp, k_dn, k_dT, k_dF, k_ip, k_in, if_true, if_false, ne_eq, not_true_eq_false, not_false_eq_true, Int.reduceAdd, zup_a, zup_e, zup_j, z32_id, k_ic, k_is3, k_il3, k_al1, k_gI, k_icge, k_al0, k_ishr, k_iand, k_ifeq, k_al2, k_v2r, k_ifne, k_ifle, k_goto, k_is4, k_il4, k_gR, k_ild, k_ildS, k_ildW, k_idiv, k_is5, k_il5, k_isub, k_min, k_ist, k_inc3, k_rv, zb0_some, zb1_some, e74_0, e74_1, e74_3, e74_4, e74_7, e74_10, e74_11, e74_14, e74_15, e74_16, e74_17, e74_18, e74_21, e74_22, e74_23, e74_26, e74_29, e74_30, e74_33, e74_36, e74_37, e74_40, e74_41, e74_43, e74_45, e74_48, e74_49, e74_52, e74_53, e74_54, e74_55, e74_58, e74_59, e74_62, e74_63, e74_65, e74_66, e74_69, e74_70, e74_72, e74_75, e74_77, e74_79, e74_80, e74_83, e74_84, e74_85, e74_86, e74_89, e74_92, e74_93, e74_94, e74_97, e74_100]
  rw [h1, e74_2]
  generalize zit (fun (h : Int) (p : zM × zV × zV) => (zup p.1 58 h (rB (zvS N 37) (zvG N 30) q h), (((0, if zbit (zvS N 37 3 q) h ≠ 0 ∧ zbit (N 37 8) h = 0 then 1 else 0, 0) : zV), ((0, if zbit (zvS N 37 3 q) h ≠ 0 ∧ zbit (N 37 8) h = 0 then Int.tdiv (N 39 h) (N 30 10) else 0, 0) : zV)))) (N 30 7).toNat 0 (N, (3, 0, 0), (3, 0, 0)) = w at h2
  have u1 : w.1 30 7 = N 30 7 := h2 _ _ (by omega)
  obtain ⟨w1, w2, w3⟩ := w
  dsimp only at u1 ⊢
  simp (disch := first | assumption | exact zrm0 | exact zrm1 _ | exact zrm2 _ _ | exact zrm3 _ _ _ | exact zrm4 _ _ _ _ | omega) only [m74, ↓k_dp, ↓k_dn, k_dp, k_dn, k_dT, k_dF, k_ip, k_in, if_true, if_false, ne_eq, not_true_eq_false, not_false_eq_true, Int.reduceAdd, zup_a, zup_e, zup_j, z32_id, k_ic, k_is3, k_il3, k_al1, k_gI, k_icge, k_al0, k_ishr, k_iand, k_ifeq, k_al2, k_v2r, k_ifne, k_ifle, k_goto, k_is4, k_il4, k_gR, k_ild, k_ildS, k_ildW, k_idiv, k_is5, k_il5, k_isub, k_min, k_ist, k_inc3, k_rv, zb0_some, zb1_some, e74_0, e74_1, e74_3, e74_4, e74_7, e74_10, e74_11, e74_14, e74_15, e74_16, e74_17, e74_18, e74_21, e74_22, e74_23, e74_26, e74_29, e74_30, e74_33, e74_36, e74_37, e74_40, e74_41, e74_43, e74_45, e74_48, e74_49, e74_52, e74_53, e74_54, e74_55, e74_58, e74_59, e74_62, e74_63, e74_65, e74_66, e74_69, e74_70, e74_72, e74_75, e74_77, e74_79, e74_80, e74_83, e74_84, e74_85, e74_86, e74_89, e74_92, e74_93, e74_94, e74_97, e74_100, u1]
/-- the room and the views that the rows are filled with -/
def okK (M N : zM) (q : Int) : Prop := N 56 2 = M 56 2 ∧ (∀ h, 0 ≤ h → h < M 30 7 → N 58 h = rB (zvS M 37) (zvG M 30) q h) ∧ ∀ x y, x ≠ 57 → x ≠ 58 → N x y = M x y
theorem c_fillK (d : Nat) (x0 h t : Int) (l7 : zV) (M N : zM) (q : Int) (j : Nat) (h56 : M 56 2 = zvS M 37 3 q) (hS : okS (zvS M 37)) (hG : okG (zvG M 30)) (hK : okK M N q) (h0 : 0 ≤ h) (h1 : h < M 30 7) (t0 : 0 ≤ t) (t1 : t ≤ 200) (hj : h = M 30 7 - (j + 1)) (hrow : ∀ n, 0 ≤ n → n ≤ 200 → N 57 ((h + 1) * 201 + n) = dL (gB (zvS M 37) (zvG M 30) q) (rB (zvS M 37) (zvG M 30) q) (M 30 7) j n) : ∃ k' l7', zEv true (d + 4) 76 59 [(23, 56, x0), (28, 30, 0), (26, 37, 0), (0, h, 0), (0, t, 0), (0, 0, 0), (0, 0, 0), l7] [] N = zEv true (d + 4) 76 122 [(23, 56, x0), (28, 30, 0), (26, 37, 0), (0, h, 0), (0, t, 0), (0, dL (gB (zvS M 37) (zvG M 30) q) (rB (zvS M 37) (zvG M 30) q) (M 30 7) (j + 1) t, 0), (0, k', 0), l7'] [] N := by
  have hG2 := hG
  obtain ⟨⟨g6, g6'⟩, ⟨g1, g2⟩, -⟩ := okG_M hG2
  obtain ⟨k1, k2, k3⟩ := hK
  have h10 : h < 10 := by omega
  have e7 : zvG M 30 0 7 = M 30 7 := zvG_0 (by omega) (by omega)
  have eS : zvS N 37 = zvS M 37 := zvS_eq (fun x y a1 a2 => k3 x y (by omega) (by omega))
  have eG : zvG N 30 = zvG M 30 := zvG_eq (fun x y a1 a2 => k3 x y (by omega) (by omega))
  have hr := rB_bd (q := q) hS hG
  have hg := gB_bd (q := q) hS hG
  have hN58 := k2 h h0 h1
  have hrb := hr h
  obtain ⟨v, hv⟩ : ∃ v : Int → Int, v = fun k => gB (zvS M 37) (zvG M 30) q (M 30 7 - ((j : Int) + 1)) k + dL (gB (zvS M 37) (zvG M 30) q) (rB (zvS M 37) (zvG M 30) q) (M 30 7) j (t - k) := ⟨_, rfl⟩
  have hvk : ∀ k, v k = gB (zvS M 37) (zvG M 30) q h k + dL (gB (zvS M 37) (zvG M 30) q) (rB (zvS M 37) (zvG M 30) q) (M 30 7) j (t - k) := fun k => by rw [hv, hj]
  have hdL : dL (gB (zvS M 37) (zvG M 30) q) (rB (zvS M 37) (zvG M 30) q) (M 30 7) (j + 1) t = zmx v (dK (rB (zvS M 37) (zvG M 30) q h) t) 0 := by rw [hv, hj]; rfl
  have hdk : ((dK (rB (zvS M 37) (zvG M 30) q h) t : Nat) : Int) = sMin (rB (zvS M 37) (zvG M 30) q h) t + 1 := by unfold dK sMin; split <;> omega
  have hl := zfor (α := Int × zV) (ph := true) (d := d + 4) (j := 76) (pc := 59) (fun k p => (sMax p.1 (v k), (0, v k, 0))) (fun k p => 0 ≤ k) (fun k p => [(23, 56, x0), (28, 30, 0), (26, 37, 0), (0, h, 0), (0, t, 0), (0, p.1, 0), (0, k, 0), p.2]) (fun _ => N) (dK (rB (zvS M 37) (zvG M 30) q h) t : Nat)
    (fun k p hk hp => by
      obtain ⟨b, l⟩ := p
      have hk2 := (dK_lt hrb.1 t0).mp hk
      have hgk : gB (zvS M 37) (zvG M 30) q h k = if zbit (zvS M 37 3 q) h ≠ 0 then sHn (zvS M 37) (zvG M 30) h 0 k else 0 := by unfold gB; rw [if_pos ⟨⟨h0, by rw [e7]; exact h1⟩, hp, hk2.1⟩]
      have hc := c_loudWith (d + 1) x0 h 0 k 0 N q (by rw [k1, eS]; exact h56) h0 h10
      rw [eS, eG, ← hgk] at hc
      have bg := hg h k
      have bL := dL_bd (g := gB (zvS M 37) (zvG M 30) q) (r := rB (zvS M 37) (zvG M 30) q) (H := M 30 7) hg (fun h => (hr h).1) j (t - k) (by omega)
      have hrw := hrow (t - k) (by omega) (by omega)
      have ex : (h + 1) * 201 + t - k = (h + 1) * 201 + (t - k) := by omega
      refine ⟨?_, by omega⟩
      dsimp only
      rw [e76_59, hvk]
      unfold sMax
      generalize gB (zvS M 37) (zvG M 30) q h k = gg at hc bg ⊢
      generalize dL (gB (zvS M 37) (zvG M 30) q) (rB (zvS M 37) (zvG M 30) q) (M 30 7) j (t - k) = dd at bL hrw ⊢
      simp (disch := first | assumption | exact zrm0 | exact zrm1 _ | exact zrm2 _ _ | exact zrm3 _ _ _ | exact zrm4 _ _ _ _ | omega) only [m76, ↓k_dp, ↓k_dn, k_dp, k_dn, k_dT, k_dF, k_ip, k_in, if_true, if_false, ne_eq, not_true_eq_false, not_false_eq_true, Int.reduceAdd, zup_a, zup_e, zup_j, z32_id, k_ic, k_is3, k_il3, k_icgt, k_al0, k_gR, k_al1, k_gI, k_imul, k_iadd, k_ist, k_inc3, k_goto, k_isub, k_iflt, k_is4, k_il4, k_is5, k_is6, k_il6, k_ild, k_ildS, k_ildW, k_al2, k_v5r, k_is7, k_il5, k_il7, k_max, k_inc6, k_inc4, k_rv, zb0_some, zb1_some, e76_0, e76_1, e76_2, e76_3, e76_6, e76_9, e76_10, e76_13, e76_14, e76_17, e76_20, e76_21, e76_22, e76_23, e76_24, e76_25, e76_28, e76_31, e76_32, e76_35, e76_36, e76_37, e76_38, e76_39, e76_42, e76_43, e76_45, e76_47, e76_50, e76_53, e76_54, e76_56, e76_57, e76_61, e76_62, e76_65, e76_66, e76_67, e76_70, e76_72, e76_74, e76_77, e76_78, e76_79, e76_80, e76_81, e76_83, e76_86, e76_87, e76_90, e76_91, e76_92, e76_93, e76_96, e76_97, e76_99, e76_100, e76_102, e76_103, e76_104, e76_105, e76_107, e76_109, e76_111, e76_114, e76_116, e76_119, e76_122, e76_123, e76_126, e76_127, e76_130, e76_131, e76_133, e76_134, e76_136, e76_137, e76_140, e76_143, e76_146, e76_149, hN58, hc, ex, hrw]) (dK (rB (zvS M 37) (zvG M 30) q h) t) 0 (0, l7) (by omega) (Int.le_refl _)
  have hf := zit_fst (F := fun (k : Int) (p : Int × zV) => (sMax p.1 (v k), ((0, v k, 0) : zV))) (f := fun k b => sMax b (v k)) (fun _ _ => rfl) (dK (rB (zvS M 37) (zvG M 30) q h) t) 0 (0, l7)
  rw [zit_mx] at hf
  obtain ⟨h2, -⟩ := hl
  dsimp only at h2 hf
  rw [hdL, ← hf, h2, e76_59]
  generalize zit (fun (k : Int) (p : Int × zV) => (sMax p.1 (v k), ((0, v k, 0) : zV))) (dK (rB (zvS M 37) (zvG M 30) q h) t) 0 (0, l7) = w
  refine ⟨((dK (rB (zvS M 37) (zvG M 30) q h) t : Nat) : Int), w.2, ?_⟩
  rw [hdk]
  obtain ⟨w1, w2⟩ := w
  dsimp only
  generalize rB (zvS M 37) (zvG M 30) q h = rr at hN58 hrb ⊢
  by_cases c : rr ≤ t
  · have e : sMin rr t = rr := by unfold sMin; split <;> omega
    rw [e]
    simp (disch := first | assumption | exact zrm0 | exact zrm1 _ | exact zrm2 _ _ | exact zrm3 _ _ _ | exact zrm4 _ _ _ _ | omega) only [m76, ↓k_dp, ↓k_dn, k_dp, k_dn, k_dT, k_dF, k_ip, k_in, if_true, if_false, ne_eq, not_true_eq_false, not_false_eq_true, Int.reduceAdd, zup_a, zup_e, zup_j, z32_id, k_ic, k_is3, k_il3, k_icgt, k_al0, k_gR, k_al1, k_gI, k_imul, k_iadd, k_ist, k_inc3, k_goto, k_isub, k_iflt, k_is4, k_il4, k_is5, k_is6, k_il6, k_ild, k_ildS, k_ildW, k_al2, k_v5r, k_is7, k_il5, k_il7, k_max, k_inc6, k_inc4, k_rv, zb0_some, zb1_some, e76_0, e76_1, e76_2, e76_3, e76_6, e76_9, e76_10, e76_13, e76_14, e76_17, e76_20, e76_21, e76_22, e76_23, e76_24, e76_25, e76_28, e76_31, e76_32, e76_35, e76_36, e76_37, e76_38, e76_39, e76_42, e76_43, e76_45, e76_47, e76_50, e76_53, e76_54, e76_56, e76_57, e76_61, e76_62, e76_65, e76_66, e76_67, e76_70, e76_72, e76_74, e76_77, e76_78, e76_79, e76_80, e76_81, e76_83, e76_86, e76_87, e76_90, e76_91, e76_92, e76_93, e76_96, e76_97, e76_99, e76_100, e76_102, e76_103, e76_104, e76_105, e76_107, e76_109, e76_111, e76_114, e76_116, e76_119, e76_123, e76_126, e76_127, e76_130, e76_131, e76_133, e76_134, e76_136, e76_137, e76_140, e76_143, e76_146, e76_149, hN58]
  · have e : sMin rr t = t := by unfold sMin; split <;> omega
    rw [e]
    simp (disch := first | assumption | exact zrm0 | exact zrm1 _ | exact zrm2 _ _ | exact zrm3 _ _ _ | exact zrm4 _ _ _ _ | omega) only [m76, ↓k_dp, ↓k_dn, k_dp, k_dn, k_dT, k_dF, k_ip, k_in, if_true, if_false, ne_eq, not_true_eq_false, not_false_eq_true, Int.reduceAdd, zup_a, zup_e, zup_j, z32_id, k_ic, k_is3, k_il3, k_icgt, k_al0, k_gR, k_al1, k_gI, k_imul, k_iadd, k_ist, k_inc3, k_goto, k_isub, k_iflt, k_is4, k_il4, k_is5, k_is6, k_il6, k_ild, k_ildS, k_ildW, k_al2, k_v5r, k_is7, k_il5, k_il7, k_max, k_inc6, k_inc4, k_rv, zb0_some, zb1_some, e76_0, e76_1, e76_2, e76_3, e76_6, e76_9, e76_10, e76_13, e76_14, e76_17, e76_20, e76_21, e76_22, e76_23, e76_24, e76_25, e76_28, e76_31, e76_32, e76_35, e76_36, e76_37, e76_38, e76_39, e76_42, e76_43, e76_45, e76_47, e76_50, e76_53, e76_54, e76_56, e76_57, e76_61, e76_62, e76_65, e76_66, e76_67, e76_70, e76_72, e76_74, e76_77, e76_78, e76_79, e76_80, e76_81, e76_83, e76_86, e76_87, e76_90, e76_91, e76_92, e76_93, e76_96, e76_97, e76_99, e76_100, e76_102, e76_103, e76_104, e76_105, e76_107, e76_109, e76_111, e76_114, e76_116, e76_119, e76_123, e76_126, e76_127, e76_130, e76_131, e76_133, e76_134, e76_136, e76_137, e76_140, e76_143, e76_146, e76_149, hN58]
