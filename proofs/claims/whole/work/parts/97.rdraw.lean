/-! days by draws in the reference -/
/-- the reference with a seed, a flag and a state -/
noncomputable def rm (M : zM) (sd f : Int) (T : zM) : zM := zpR (zup (zup M 197 40 sd) 199 78 f) T
theorem rm_sd {M T : zM} {sd f v : Int} : zup (rm M sd f T) 197 40 v = rm M v f T := by
  unfold rm
  rw [zpR_uo (by omega)]
  congr 1
  funext x y
  unfold zup
  by_cases c1 : x = 197 ∧ y = 40
  · obtain ⟨rfl, rfl⟩ := c1
    simp
  · by_cases c2 : x = 199 ∧ y = 78
    · obtain ⟨rfl, rfl⟩ := c2
      simp
    · rw [if_neg (fun z => c1 ⟨z.1, z.2.1⟩), if_neg (fun z => c2 ⟨z.1, z.2.1⟩), if_neg (fun z => c1 ⟨z.1, z.2.1⟩), if_neg (fun z => c2 ⟨z.1, z.2.1⟩), if_neg (fun z => c1 ⟨z.1, z.2.1⟩)]
theorem rm_fl {M T : zM} {sd f v : Int} : zup (rm M sd f T) 199 78 v = rm M sd v T := by
  unfold rm
  rw [zpR_uo (by omega), zup_zup]
theorem rm_fl2 {M T U : zM} {sd f v : Int} : zpR (zup (rm M sd f T) 199 78 v) U = rm M sd v U := by
  rw [rm_fl]
  unfold rm
  rw [zpR_put]
theorem rm_40 {M T : zM} {sd f : Int} : rm M sd f T 197 40 = sd := by
  unfold rm
  rw [zpR_o (by omega), zup_a (by omega), zup_e (by omega)]
theorem rm_78 {M T : zM} {sd f : Int} : rm M sd f T 199 78 = f := by
  unfold rm
  rw [zpR_o (by omega), zup_e (by omega)]
theorem rm_o {M T : zM} {sd f x y : Int} (h : x ≠ 199 ∨ y < 75 ∨ 126 ≤ y) (h2 : x ≠ 197 ∨ y ≠ 40) : rm M sd f T x y = M x y := by
  unfold rm
  rw [zpR_o (by omega)]
  unfold zup
  rw [if_neg (by omega), if_neg (by omega)]
theorem rm_S {M T : zM} {sd f : Int} : zrS (rm M sd f T) = zt T := zrS_pR
theorem rm_G {M T : zM} {sd f : Int} : zrG (rm M sd f T) = zrG M := by
  unfold rm
  rw [zrG_pR, zrG_out (Or.inr (by omega)), zrG_out (Or.inl (by omega))]
theorem rm_put {M T U : zM} {sd f : Int} : zpR (rm M sd f T) U = rm M sd f U := by
  unfold rm
  rw [zpR_put]
theorem rm_u08 {M T : zM} {sd f v : Int} : zup (rm M sd f T) 199 77 v = rm M sd f (zup T 0 8 v) := zpR_u08
theorem rm_u09 {M T : zM} {sd f v : Int} : zup (rm M sd f T) 199 76 v = rm M sd f (zup T 0 9 v) := zpR_u09
theorem rm_08 {M T : zM} {sd f : Int} : rm M sd f T 199 77 = T 0 8 := zpR_08
theorem rm_0t {M T : zM} {sd f : Int} : rm M sd f T 199 75 = T 0 10 := zpR_0t
theorem m269 (ph : Bool) (d : Nat) (a x0 p0 y0 : Int) (M : zM) : zEm ph (d + 1) 269 [(30, a, x0), (0, p0, y0)] M = zEv ph d 269 0 [(30, a, x0), (0, p0, y0)] [] M := rfl
theorem e269_0 (ph : Bool) (d : Nat) (L st : List zV) (M : zM) : zEv ph d 269 0 L st M = zcont ph d 269 (zstep ph (zEm ph d) 4 1 0 [0] L st M) := zEv_step rfl
theorem e269_1 (ph : Bool) (d : Nat) (L st : List zV) (M : zM) : zEv ph d 269 1 L st M = zcont ph d 269 (zstep ph (zEm ph d) 4 2 0 [0] L st M) := zEv_step rfl
theorem e269_2 (ph : Bool) (d : Nat) (L st : List zV) (M : zM) : zEv ph d 269 2 L st M = zcont ph d 269 (zstep ph (zEm ph d) 60 5 0 [30, 40] L st M) := zEv_step rfl
theorem e269_5 (ph : Bool) (d : Nat) (L st : List zV) (M : zM) : zEv ph d 269 5 L st M = zcont ph d 269 (zstep ph (zEm ph d) 0 8 0 [1103515245] L st M) := zEv_step rfl
theorem e269_8 (ph : Bool) (d : Nat) (L st : List zV) (M : zM) : zEv ph d 269 8 L st M = zcont ph d 269 (zstep ph (zEm ph d) 12 9 0 [] L st M) := zEv_step rfl
theorem e269_9 (ph : Bool) (d : Nat) (L st : List zV) (M : zM) : zEv ph d 269 9 L st M = zcont ph d 269 (zstep ph (zEm ph d) 0 12 0 [12345] L st M) := zEv_step rfl
theorem e269_12 (ph : Bool) (d : Nat) (L st : List zV) (M : zM) : zEv ph d 269 12 L st M = zcont ph d 269 (zstep ph (zEm ph d) 10 13 0 [] L st M) := zEv_step rfl
theorem e269_13 (ph : Bool) (d : Nat) (L st : List zV) (M : zM) : zEv ph d 269 13 L st M = zcont ph d 269 (zstep ph (zEm ph d) 65 16 0 [30, 40] L st M) := zEv_step rfl
theorem e269_16 (ph : Bool) (d : Nat) (L st : List zV) (M : zM) : zEv ph d 269 16 L st M = zcont ph d 269 (zstep ph (zEm ph d) 4 17 0 [0] L st M) := zEv_step rfl
theorem e269_17 (ph : Bool) (d : Nat) (L st : List zV) (M : zM) : zEv ph d 269 17 L st M = zcont ph d 269 (zstep ph (zEm ph d) 60 20 0 [30, 40] L st M) := zEv_step rfl
theorem e269_20 (ph : Bool) (d : Nat) (L st : List zV) (M : zM) : zEv ph d 269 20 L st M = zcont ph d 269 (zstep ph (zEm ph d) 0 22 0 [8] L st M) := zEv_step rfl
theorem e269_22 (ph : Bool) (d : Nat) (L st : List zV) (M : zM) : zEv ph d 269 22 L st M = zcont ph d 269 (zstep ph (zEm ph d) 21 23 0 [] L st M) := zEv_step rfl
theorem e269_23 (ph : Bool) (d : Nat) (L st : List zV) (M : zM) : zEv ph d 269 23 L st M = zcont ph d 269 (zstep ph (zEm ph d) 2 24 0 [1] L st M) := zEv_step rfl
theorem e269_24 (ph : Bool) (d : Nat) (L st : List zV) (M : zM) : zEv ph d 269 24 L st M = zcont ph d 269 (zstep ph (zEm ph d) 14 25 0 [] L st M) := zEv_step rfl
theorem e269_25 (ph : Bool) (d : Nat) (L st : List zV) (M : zM) : zEv ph d 269 25 L st M = zcont ph d 269 (zstep ph (zEm ph d) 80 26 0 [] L st M) := zEv_step rfl
theorem m270 (ph : Bool) (d : Nat) (a x0 p0 y0 p1 y1 : Int) (M : zM) : zEm ph (d + 1) 270 [(30, a, x0), (0, p0, y0), (0, p1, y1)] M = zEv ph d 270 0 [(30, a, x0), (0, p0, y0), (0, p1, y1), (3, 0, 0), (3, 0, 0), (3, 0, 0), (3, 0, 0)] [] M := rfl
theorem e270_0 (ph : Bool) (d : Nat) (L st : List zV) (M : zM) : zEv ph d 270 0 L st M = zcont ph d 270 (zstep ph (zEm ph d) 4 1 0 [0] L st M) := zEv_step rfl
theorem e270_1 (ph : Bool) (d : Nat) (L st : List zV) (M : zM) : zEv ph d 270 1 L st M = zcont ph d 270 (zstep ph (zEm ph d) 2 2 0 [2] L st M) := zEv_step rfl
theorem e270_2 (ph : Bool) (d : Nat) (L st : List zV) (M : zM) : zEv ph d 270 2 L st M = zcont ph d 270 (zstep ph (zEm ph d) 65 5 0 [30, 40] L st M) := zEv_step rfl
theorem e270_5 (ph : Bool) (d : Nat) (L st : List zV) (M : zM) : zEv ph d 270 5 L st M = zcont ph d 270 (zstep ph (zEm ph d) 2 6 0 [1] L st M) := zEv_step rfl
theorem e270_6 (ph : Bool) (d : Nat) (L st : List zV) (M : zM) : zEv ph d 270 6 L st M = zcont ph d 270 (zstep ph (zEm ph d) 0 9 0 [400] L st M) := zEv_step rfl
theorem e270_9 (ph : Bool) (d : Nat) (L st : List zV) (M : zM) : zEv ph d 270 9 L st M = zcont ph d 270 (zstep ph (zEm ph d) 4 10 0 [0] L st M) := zEv_step rfl
theorem e270_10 (ph : Bool) (d : Nat) (L st : List zV) (M : zM) : zEv ph d 270 10 L st M = zcont ph d 270 (zstep ph (zEm ph d) 62 13 0 [30, 14, 2, 10, 368] L st M) := zEv_step rfl
theorem e270_13 (ph : Bool) (d : Nat) (L st : List zV) (M : zM) : zEv ph d 270 13 L st M = zcont ph d 270 (zstep ph (zEm ph d) 0 15 0 [75] L st M) := zEv_step rfl
theorem e270_15 (ph : Bool) (d : Nat) (L st : List zV) (M : zM) : zEv ph d 270 15 L st M = zcont ph d 270 (zstep ph (zEm ph d) 85 16 0 [] L st M) := zEv_step rfl
theorem e270_16 (ph : Bool) (d : Nat) (L st : List zV) (M : zM) : zEv ph d 270 16 L st M = zcont ph d 270 (zstep ph (zEm ph d) 11 17 0 [] L st M) := zEv_step rfl
theorem e270_17 (ph : Bool) (d : Nat) (L st : List zV) (M : zM) : zEv ph d 270 17 L st M = zcont ph d 270 (zstep ph (zEm ph d) 70 20 171 [2, 1, -1] L st M) := zEv_step rfl
theorem e270_20 (ph : Bool) (d : Nat) (L st : List zV) (M : zM) : zEv ph d 270 20 L st M = zcont ph d 270 (zstep ph (zEm ph d) 5 21 0 [3] L st M) := zEv_step rfl
theorem e270_21 (ph : Bool) (d : Nat) (L st : List zV) (M : zM) : zEv ph d 270 21 L st M = zcont ph d 270 (zstep ph (zEm ph d) 0 22 0 [0] L st M) := zEv_step rfl
theorem e270_22 (ph : Bool) (d : Nat) (L st : List zV) (M : zM) : zEv ph d 270 22 L st M = zcont ph d 270 (zstep ph (zEm ph d) 5 24 0 [4] L st M) := zEv_step rfl
theorem e270_24 (ph : Bool) (d : Nat) (L st : List zV) (M : zM) : zEv ph d 270 24 L st M = zcont ph d 270 (zstep ph (zEm ph d) 2 26 0 [4] L st M) := zEv_step rfl
theorem e270_26 (ph : Bool) (d : Nat) (L st : List zV) (M : zM) : zEv ph d 270 26 L st M = zcont ph d 270 (zstep ph (zEm ph d) 2 27 0 [3] L st M) := zEv_step rfl
theorem e270_27 (ph : Bool) (d : Nat) (L st : List zV) (M : zM) : zEv ph d 270 27 L st M = zcont ph d 270 (zstep ph (zEm ph d) 49 30 163 [] L st M) := zEv_step rfl
theorem e270_30 (ph : Bool) (d : Nat) (L st : List zV) (M : zM) : zEv ph d 270 30 L st M = zcont ph d 270 (zstep ph (zEm ph d) 4 31 0 [0] L st M) := zEv_step rfl
theorem e270_31 (ph : Bool) (d : Nat) (L st : List zV) (M : zM) : zEv ph d 270 31 L st M = zcont ph d 270 (zstep ph (zEm ph d) 62 34 0 [30, 14, 2, 10, 368] L st M) := zEv_step rfl
theorem e270_34 (ph : Bool) (d : Nat) (L st : List zV) (M : zM) : zEv ph d 270 34 L st M = zcont ph d 270 (zstep ph (zEm ph d) 0 36 0 [76] L st M) := zEv_step rfl
theorem e270_36 (ph : Bool) (d : Nat) (L st : List zV) (M : zM) : zEv ph d 270 36 L st M = zcont ph d 270 (zstep ph (zEm ph d) 4 37 0 [0] L st M) := zEv_step rfl
theorem e270_37 (ph : Bool) (d : Nat) (L st : List zV) (M : zM) : zEv ph d 270 37 L st M = zcont ph d 270 (zstep ph (zEm ph d) 0 38 0 [3] L st M) := zEv_step rfl
theorem e270_38 (ph : Bool) (d : Nat) (L st : List zV) (M : zM) : zEv ph d 270 38 L st M = zcont ph d 270 (zstep ph (zEm ph d) 70 41 269 [2, 1, 30] L st M) := zEv_step rfl
theorem e270_41 (ph : Bool) (d : Nat) (L st : List zV) (M : zM) : zEv ph d 270 41 L st M = zcont ph d 270 (zstep ph (zEm ph d) 89 42 0 [] L st M) := zEv_step rfl
theorem e270_42 (ph : Bool) (d : Nat) (L st : List zV) (M : zM) : zEv ph d 270 42 L st M = zcont ph d 270 (zstep ph (zEm ph d) 0 43 0 [0] L st M) := zEv_step rfl
theorem e270_43 (ph : Bool) (d : Nat) (L st : List zV) (M : zM) : zEv ph d 270 43 L st M = zcont ph d 270 (zstep ph (zEm ph d) 5 45 0 [5] L st M) := zEv_step rfl
theorem e270_45 (ph : Bool) (d : Nat) (L st : List zV) (M : zM) : zEv ph d 270 45 L st M = zcont ph d 270 (zstep ph (zEm ph d) 2 47 0 [5] L st M) := zEv_step rfl
theorem e270_47 (ph : Bool) (d : Nat) (L st : List zV) (M : zM) : zEv ph d 270 47 L st M = zcont ph d 270 (zstep ph (zEm ph d) 4 48 0 [0] L st M) := zEv_step rfl
theorem e270_48 (ph : Bool) (d : Nat) (L st : List zV) (M : zM) : zEv ph d 270 48 L st M = zcont ph d 270 (zstep ph (zEm ph d) 62 51 0 [30, 14, 2, 10, 368] L st M) := zEv_step rfl
theorem e270_51 (ph : Bool) (d : Nat) (L st : List zV) (M : zM) : zEv ph d 270 51 L st M = zcont ph d 270 (zstep ph (zEm ph d) 0 52 0 [1] L st M) := zEv_step rfl
theorem e270_52 (ph : Bool) (d : Nat) (L st : List zV) (M : zM) : zEv ph d 270 52 L st M = zcont ph d 270 (zstep ph (zEm ph d) 85 53 0 [] L st M) := zEv_step rfl
theorem e270_53 (ph : Bool) (d : Nat) (L st : List zV) (M : zM) : zEv ph d 270 53 L st M = zcont ph d 270 (zstep ph (zEm ph d) 49 56 117 [] L st M) := zEv_step rfl
theorem e270_56 (ph : Bool) (d : Nat) (L st : List zV) (M : zM) : zEv ph d 270 56 L st M = zcont ph d 270 (zstep ph (zEm ph d) 4 57 0 [0] L st M) := zEv_step rfl
theorem e270_57 (ph : Bool) (d : Nat) (L st : List zV) (M : zM) : zEv ph d 270 57 L st M = zcont ph d 270 (zstep ph (zEm ph d) 0 59 0 [10] L st M) := zEv_step rfl
theorem e270_59 (ph : Bool) (d : Nat) (L st : List zV) (M : zM) : zEv ph d 270 59 L st M = zcont ph d 270 (zstep ph (zEm ph d) 70 62 269 [2, 1, 30] L st M) := zEv_step rfl
theorem e270_62 (ph : Bool) (d : Nat) (L st : List zV) (M : zM) : zEv ph d 270 62 L st M = zcont ph d 270 (zstep ph (zEm ph d) 5 64 0 [6] L st M) := zEv_step rfl
theorem e270_64 (ph : Bool) (d : Nat) (L st : List zV) (M : zM) : zEv ph d 270 64 L st M = zcont ph d 270 (zstep ph (zEm ph d) 2 66 0 [6] L st M) := zEv_step rfl
theorem e270_66 (ph : Bool) (d : Nat) (L st : List zV) (M : zM) : zEv ph d 270 66 L st M = zcont ph d 270 (zstep ph (zEm ph d) 41 69 86 [] L st M) := zEv_step rfl
theorem e270_69 (ph : Bool) (d : Nat) (L st : List zV) (M : zM) : zEv ph d 270 69 L st M = zcont ph d 270 (zstep ph (zEm ph d) 4 70 0 [0] L st M) := zEv_step rfl
theorem e270_70 (ph : Bool) (d : Nat) (L st : List zV) (M : zM) : zEv ph d 270 70 L st M = zcont ph d 270 (zstep ph (zEm ph d) 62 73 0 [30, 14, 2, 10, 368] L st M) := zEv_step rfl
theorem e270_73 (ph : Bool) (d : Nat) (L st : List zV) (M : zM) : zEv ph d 270 73 L st M = zcont ph d 270 (zstep ph (zEm ph d) 0 75 0 [77] L st M) := zEv_step rfl
theorem e270_75 (ph : Bool) (d : Nat) (L st : List zV) (M : zM) : zEv ph d 270 75 L st M = zcont ph d 270 (zstep ph (zEm ph d) 37 76 0 [] L st M) := zEv_step rfl
theorem e270_76 (ph : Bool) (d : Nat) (L st : List zV) (M : zM) : zEv ph d 270 76 L st M = zcont ph d 270 (zstep ph (zEm ph d) 85 77 0 [] L st M) := zEv_step rfl
theorem e270_77 (ph : Bool) (d : Nat) (L st : List zV) (M : zM) : zEv ph d 270 77 L st M = zcont ph d 270 (zstep ph (zEm ph d) 0 78 0 [1] L st M) := zEv_step rfl
theorem e270_78 (ph : Bool) (d : Nat) (L st : List zV) (M : zM) : zEv ph d 270 78 L st M = zcont ph d 270 (zstep ph (zEm ph d) 2 80 0 [5] L st M) := zEv_step rfl
theorem e270_80 (ph : Bool) (d : Nat) (L st : List zV) (M : zM) : zEv ph d 270 80 L st M = zcont ph d 270 (zstep ph (zEm ph d) 19 81 0 [] L st M) := zEv_step rfl
theorem e270_81 (ph : Bool) (d : Nat) (L st : List zV) (M : zM) : zEv ph d 270 81 L st M = zcont ph d 270 (zstep ph (zEm ph d) 18 82 0 [] L st M) := zEv_step rfl
theorem e270_82 (ph : Bool) (d : Nat) (L st : List zV) (M : zM) : zEv ph d 270 82 L st M = zcont ph d 270 (zstep ph (zEm ph d) 89 83 0 [] L st M) := zEv_step rfl
theorem e270_83 (ph : Bool) (d : Nat) (L st : List zV) (M : zM) : zEv ph d 270 83 L st M = zcont ph d 270 (zstep ph (zEm ph d) 52 86 111 [] L st M) := zEv_step rfl
theorem e270_86 (ph : Bool) (d : Nat) (L st : List zV) (M : zM) : zEv ph d 270 86 L st M = zcont ph d 270 (zstep ph (zEm ph d) 2 88 0 [6] L st M) := zEv_step rfl
theorem e270_88 (ph : Bool) (d : Nat) (L st : List zV) (M : zM) : zEv ph d 270 88 L st M = zcont ph d 270 (zstep ph (zEm ph d) 0 89 0 [1] L st M) := zEv_step rfl
theorem e270_89 (ph : Bool) (d : Nat) (L st : List zV) (M : zM) : zEv ph d 270 89 L st M = zcont ph d 270 (zstep ph (zEm ph d) 47 92 111 [] L st M) := zEv_step rfl
theorem e270_92 (ph : Bool) (d : Nat) (L st : List zV) (M : zM) : zEv ph d 270 92 L st M = zcont ph d 270 (zstep ph (zEm ph d) 4 93 0 [0] L st M) := zEv_step rfl
theorem e270_93 (ph : Bool) (d : Nat) (L st : List zV) (M : zM) : zEv ph d 270 93 L st M = zcont ph d 270 (zstep ph (zEm ph d) 2 95 0 [5] L st M) := zEv_step rfl
theorem e270_95 (ph : Bool) (d : Nat) (L st : List zV) (M : zM) : zEv ph d 270 95 L st M = zcont ph d 270 (zstep ph (zEm ph d) 0 96 0 [1] L st M) := zEv_step rfl
theorem e270_96 (ph : Bool) (d : Nat) (L st : List zV) (M : zM) : zEv ph d 270 96 L st M = zcont ph d 270 (zstep ph (zEm ph d) 70 99 224 [3, 1, 30] L st M) := zEv_step rfl
theorem e270_99 (ph : Bool) (d : Nat) (L st : List zV) (M : zM) : zEv ph d 270 99 L st M = zcont ph d 270 (zstep ph (zEm ph d) 41 102 111 [] L st M) := zEv_step rfl
theorem e270_102 (ph : Bool) (d : Nat) (L st : List zV) (M : zM) : zEv ph d 270 102 L st M = zcont ph d 270 (zstep ph (zEm ph d) 4 103 0 [0] L st M) := zEv_step rfl
theorem e270_103 (ph : Bool) (d : Nat) (L st : List zV) (M : zM) : zEv ph d 270 103 L st M = zcont ph d 270 (zstep ph (zEm ph d) 0 104 0 [0] L st M) := zEv_step rfl
theorem e270_104 (ph : Bool) (d : Nat) (L st : List zV) (M : zM) : zEv ph d 270 104 L st M = zcont ph d 270 (zstep ph (zEm ph d) 2 106 0 [5] L st M) := zEv_step rfl
theorem e270_106 (ph : Bool) (d : Nat) (L st : List zV) (M : zM) : zEv ph d 270 106 L st M = zcont ph d 270 (zstep ph (zEm ph d) 0 107 0 [1] L st M) := zEv_step rfl
theorem e270_107 (ph : Bool) (d : Nat) (L st : List zV) (M : zM) : zEv ph d 270 107 L st M = zcont ph d 270 (zstep ph (zEm ph d) 0 108 0 [0] L st M) := zEv_step rfl
theorem e270_108 (ph : Bool) (d : Nat) (L st : List zV) (M : zM) : zEv ph d 270 108 L st M = zcont ph d 270 (zstep ph (zEm ph d) 70 111 230 [5, 0, 30] L st M) := zEv_step rfl
theorem e270_111 (ph : Bool) (d : Nat) (L st : List zV) (M : zM) : zEv ph d 270 111 L st M = zcont ph d 270 (zstep ph (zEm ph d) 8 114 0 [5, 1] L st M) := zEv_step rfl
theorem e270_114 (ph : Bool) (d : Nat) (L st : List zV) (M : zM) : zEv ph d 270 114 L st M = zcont ph d 270 (zstep ph (zEm ph d) 52 117 45 [] L st M) := zEv_step rfl
theorem e270_117 (ph : Bool) (d : Nat) (L st : List zV) (M : zM) : zEv ph d 270 117 L st M = zcont ph d 270 (zstep ph (zEm ph d) 4 118 0 [0] L st M) := zEv_step rfl
theorem e270_118 (ph : Bool) (d : Nat) (L st : List zV) (M : zM) : zEv ph d 270 118 L st M = zcont ph d 270 (zstep ph (zEm ph d) 62 121 0 [30, 14, 2, 10, 368] L st M) := zEv_step rfl
theorem e270_121 (ph : Bool) (d : Nat) (L st : List zV) (M : zM) : zEv ph d 270 121 L st M = zcont ph d 270 (zstep ph (zEm ph d) 0 122 0 [2] L st M) := zEv_step rfl
theorem e270_122 (ph : Bool) (d : Nat) (L st : List zV) (M : zM) : zEv ph d 270 122 L st M = zcont ph d 270 (zstep ph (zEm ph d) 85 123 0 [] L st M) := zEv_step rfl
theorem e270_123 (ph : Bool) (d : Nat) (L st : List zV) (M : zM) : zEv ph d 270 123 L st M = zcont ph d 270 (zstep ph (zEm ph d) 45 126 153 [] L st M) := zEv_step rfl
theorem e270_126 (ph : Bool) (d : Nat) (L st : List zV) (M : zM) : zEv ph d 270 126 L st M = zcont ph d 270 (zstep ph (zEm ph d) 4 127 0 [0] L st M) := zEv_step rfl
theorem e270_127 (ph : Bool) (d : Nat) (L st : List zV) (M : zM) : zEv ph d 270 127 L st M = zcont ph d 270 (zstep ph (zEm ph d) 4 128 0 [0] L st M) := zEv_step rfl
theorem e270_128 (ph : Bool) (d : Nat) (L st : List zV) (M : zM) : zEv ph d 270 128 L st M = zcont ph d 270 (zstep ph (zEm ph d) 62 131 0 [30, 14, 2, 10, 368] L st M) := zEv_step rfl
theorem e270_131 (ph : Bool) (d : Nat) (L st : List zV) (M : zM) : zEv ph d 270 131 L st M = zcont ph d 270 (zstep ph (zEm ph d) 0 132 0 [2] L st M) := zEv_step rfl
theorem e270_132 (ph : Bool) (d : Nat) (L st : List zV) (M : zM) : zEv ph d 270 132 L st M = zcont ph d 270 (zstep ph (zEm ph d) 85 133 0 [] L st M) := zEv_step rfl
theorem e270_133 (ph : Bool) (d : Nat) (L st : List zV) (M : zM) : zEv ph d 270 133 L st M = zcont ph d 270 (zstep ph (zEm ph d) 70 136 269 [2, 1, 30] L st M) := zEv_step rfl
theorem e270_136 (ph : Bool) (d : Nat) (L st : List zV) (M : zM) : zEv ph d 270 136 L st M = zcont ph d 270 (zstep ph (zEm ph d) 5 138 0 [5] L st M) := zEv_step rfl
theorem e270_138 (ph : Bool) (d : Nat) (L st : List zV) (M : zM) : zEv ph d 270 138 L st M = zcont ph d 270 (zstep ph (zEm ph d) 4 139 0 [0] L st M) := zEv_step rfl
theorem e270_139 (ph : Bool) (d : Nat) (L st : List zV) (M : zM) : zEv ph d 270 139 L st M = zcont ph d 270 (zstep ph (zEm ph d) 2 141 0 [5] L st M) := zEv_step rfl
theorem e270_141 (ph : Bool) (d : Nat) (L st : List zV) (M : zM) : zEv ph d 270 141 L st M = zcont ph d 270 (zstep ph (zEm ph d) 70 144 225 [2, 1, 30] L st M) := zEv_step rfl
theorem e270_144 (ph : Bool) (d : Nat) (L st : List zV) (M : zM) : zEv ph d 270 144 L st M = zcont ph d 270 (zstep ph (zEm ph d) 41 147 153 [] L st M) := zEv_step rfl
theorem e270_147 (ph : Bool) (d : Nat) (L st : List zV) (M : zM) : zEv ph d 270 147 L st M = zcont ph d 270 (zstep ph (zEm ph d) 4 148 0 [0] L st M) := zEv_step rfl
theorem e270_148 (ph : Bool) (d : Nat) (L st : List zV) (M : zM) : zEv ph d 270 148 L st M = zcont ph d 270 (zstep ph (zEm ph d) 2 150 0 [5] L st M) := zEv_step rfl
theorem e270_150 (ph : Bool) (d : Nat) (L st : List zV) (M : zM) : zEv ph d 270 150 L st M = zcont ph d 270 (zstep ph (zEm ph d) 70 153 228 [2, 0, 30] L st M) := zEv_step rfl
theorem e270_153 (ph : Bool) (d : Nat) (L st : List zV) (M : zM) : zEv ph d 270 153 L st M = zcont ph d 270 (zstep ph (zEm ph d) 4 154 0 [0] L st M) := zEv_step rfl
theorem e270_154 (ph : Bool) (d : Nat) (L st : List zV) (M : zM) : zEv ph d 270 154 L st M = zcont ph d 270 (zstep ph (zEm ph d) 70 157 240 [1, 0, 30] L st M) := zEv_step rfl
theorem e270_157 (ph : Bool) (d : Nat) (L st : List zV) (M : zM) : zEv ph d 270 157 L st M = zcont ph d 270 (zstep ph (zEm ph d) 8 160 0 [4, 1] L st M) := zEv_step rfl
theorem e270_160 (ph : Bool) (d : Nat) (L st : List zV) (M : zM) : zEv ph d 270 160 L st M = zcont ph d 270 (zstep ph (zEm ph d) 52 163 24 [] L st M) := zEv_step rfl
theorem e270_163 (ph : Bool) (d : Nat) (L st : List zV) (M : zM) : zEv ph d 270 163 L st M = zcont ph d 270 (zstep ph (zEm ph d) 2 164 0 [3] L st M) := zEv_step rfl
theorem e270_164 (ph : Bool) (d : Nat) (L st : List zV) (M : zM) : zEv ph d 270 164 L st M = zcont ph d 270 (zstep ph (zEm ph d) 80 165 0 [] L st M) := zEv_step rfl
theorem r_draw (d : Nat) (z0 n y : Int) (M : zM) (n0 : 0 < n) : zEm true (d + 1) 269 [(30, 197, z0), (0, n, y)] M = some ((0, dVal (dNext (M 197 40)) n, 0), zup M 197 40 (dNext (M 197 40))) := by
  unfold dVal dNext
  simp (disch := first | assumption | exact zrm0 | exact zrm1 _ | exact zrm2 _ _ | exact zrm3 _ _ _ | exact zrm4 _ _ _ _ | omega) only [m269, ↓k_dp, ↓k_dn, k_dp, k_dn, k_dT, k_dF, k_ip, k_in, if_true, if_false, ne_eq, not_true_eq_false, not_false_eq_true, Int.reduceAdd, zup_a, zup_e, zup_j, z32_id, k_al0, k_gI, k_ic, k_imul, k_iadd, k_pI, k_iushr, k_il1, k_irem, k_ri, e269_0, e269_1, e269_2, e269_5, e269_8, e269_9, e269_12, e269_13, e269_16, e269_17, e269_20, e269_22, e269_23, e269_24, e269_25]
theorem r_drawHands (d : Nat) (z0 n y x y2 k i : Int) (l6 : zV) (M T : zM) (sd f : Int) (hT : okD T (zrG M)) (hG : okG (zrG M)) : ∃ l6', zEv true (d + 6) 270 45 [(30, 197, z0), (0, n, y), (0, x, y2), (0, k, 0), (0, i, 0), (0, 0, 0), l6] [] (rm M sd f T) = zEv true (d + 6) 270 117 [(30, 197, z0), (0, n, y), (0, x, y2), (0, k, 0), (0, i, 0), (0, M 199 1, 0), l6'] [] (rm M (zit (dHand (zrG M)) (M 199 1).toNat 0 (T, sd)).2 f (zit (dHand (zrG M)) (M 199 1).toNat 0 (T, sd)).1) := by
  obtain ⟨-, ⟨g1, g2⟩, -⟩ := okR_M hG
  have e7 : zrG M 0 7 = M 199 1 := zrG_07
  have hl := zfor (α := (zM × Int) × zV) (ph := true) (d := d + 6) (j := 270) (pc := 45) (fun h p => (dHand (zrG M) h p.1, (0, dVal (dNext p.1.2) 10, 0))) (fun h p => 0 ≤ h ∧ okD p.1.1 (zrG M)) (fun h p => [(30, 197, z0), (0, n, y), (0, x, y2), (0, k, 0), (0, i, 0), (0, h, 0), p.2]) (fun p => rm M p.1.2 f p.1.1) (M 199 1)
    (fun h p hk hp => by
      obtain ⟨⟨U, su⟩, l⟩ := p
      obtain ⟨h0, h1⟩ := hp
      have hU : zt U = U := h1.1
      have h10 : h < 10 := by omega
      constructor
      · dsimp only
        unfold dHand
        dsimp only
        rw [e270_45]
        by_cases c1 : dVal (dNext su) 10 = 0
        · rw [if_pos c1]
          simp (disch := first | assumption | exact zrm0 | exact zrm1 _ | exact zrm2 _ _ | exact zrm3 _ _ _ | exact zrm4 _ _ _ _ | omega) only [m270, ↓k_dp, ↓k_dn, k_dp, k_dn, k_dT, k_dF, k_ip, k_in, if_true, if_false, ne_eq, not_true_eq_false, not_false_eq_true, Int.reduceAdd, zup_a, zup_e, zup_j, z32_id, k_al0, k_il2, k_pI, k_il1, k_ic, k_gR, k_ild, k_ildS, k_ildW, k_isub, k_s2r, k_is3, k_is4, k_il4, k_il3, k_icge, k_v2r, k_ist, k_is5, k_il5, k_is6, k_il6, k_ifne, k_dup2, k_ishl, k_ixor, k_goto, k_icne, k_v3r, k_v5, k_inc5, k_ifle, k_v2, k_v1, k_inc4, k_ri, zb0_some, zb1_some, e270_0, e270_1, e270_2, e270_5, e270_6, e270_9, e270_10, e270_13, e270_15, e270_16, e270_17, e270_20, e270_21, e270_22, e270_24, e270_26, e270_27, e270_30, e270_31, e270_34, e270_36, e270_37, e270_38, e270_41, e270_42, e270_43, e270_47, e270_48, e270_51, e270_52, e270_53, e270_56, e270_57, e270_59, e270_62, e270_64, e270_66, e270_69, e270_70, e270_73, e270_75, e270_76, e270_77, e270_78, e270_80, e270_81, e270_82, e270_83, e270_86, e270_88, e270_89, e270_92, e270_93, e270_95, e270_96, e270_99, e270_102, e270_103, e270_104, e270_106, e270_107, e270_108, e270_111, e270_114, e270_117, e270_118, e270_121, e270_122, e270_123, e270_126, e270_127, e270_128, e270_131, e270_132, e270_133, e270_136, e270_138, e270_139, e270_141, e270_144, e270_147, e270_148, e270_150, e270_153, e270_154, e270_157, e270_160, e270_163, e270_164, rm_o, r_draw, rm_40, rm_sd, c1, rm_08, rm_u08]
        · rw [if_neg c1]
          by_cases c2 : dVal (dNext su) 10 = 1
          · rw [if_pos c2]
            by_cases c3 : sWhyBuy U (zrG M) h 1 = 0
            · rw [if_pos c3]
              simp (disch := first | assumption | exact zrm0 | exact zrm1 _ | exact zrm2 _ _ | exact zrm3 _ _ _ | exact zrm4 _ _ _ _ | omega) only [m270, ↓k_dp, ↓k_dn, k_dp, k_dn, k_dT, k_dF, k_ip, k_in, if_true, if_false, ne_eq, not_true_eq_false, not_false_eq_true, Int.reduceAdd, zup_a, zup_e, zup_j, z32_id, k_al0, k_il2, k_pI, k_il1, k_ic, k_gR, k_ild, k_ildS, k_ildW, k_isub, k_s2r, k_is3, k_is4, k_il4, k_il3, k_icge, k_v2r, k_ist, k_is5, k_il5, k_is6, k_il6, k_ifne, k_dup2, k_ishl, k_ixor, k_goto, k_icne, k_v3r, k_v5, k_inc5, k_ifle, k_v2, k_v1, k_inc4, k_ri, zb0_some, zb1_some, e270_0, e270_1, e270_2, e270_5, e270_6, e270_9, e270_10, e270_13, e270_15, e270_16, e270_17, e270_20, e270_21, e270_22, e270_24, e270_26, e270_27, e270_30, e270_31, e270_34, e270_36, e270_37, e270_38, e270_41, e270_42, e270_43, e270_47, e270_48, e270_51, e270_52, e270_53, e270_56, e270_57, e270_59, e270_62, e270_64, e270_66, e270_69, e270_70, e270_73, e270_75, e270_76, e270_77, e270_78, e270_80, e270_81, e270_82, e270_83, e270_86, e270_88, e270_89, e270_92, e270_93, e270_95, e270_96, e270_99, e270_102, e270_103, e270_104, e270_106, e270_107, e270_108, e270_111, e270_114, e270_117, e270_118, e270_121, e270_122, e270_123, e270_126, e270_127, e270_128, e270_131, e270_132, e270_133, e270_136, e270_138, e270_139, e270_141, e270_144, e270_147, e270_148, e270_150, e270_153, e270_154, e270_157, e270_160, e270_163, e270_164, rm_o, r_draw, rm_40, rm_sd, c2, r_whyBuy, rm_S, rm_G, hU, c3, r_liveM_buy, rm_put]
            · rw [if_neg c3]
              simp (disch := first | assumption | exact zrm0 | exact zrm1 _ | exact zrm2 _ _ | exact zrm3 _ _ _ | exact zrm4 _ _ _ _ | omega) only [m270, ↓k_dp, ↓k_dn, k_dp, k_dn, k_dT, k_dF, k_ip, k_in, if_true, if_false, ne_eq, not_true_eq_false, not_false_eq_true, Int.reduceAdd, zup_a, zup_e, zup_j, z32_id, k_al0, k_il2, k_pI, k_il1, k_ic, k_gR, k_ild, k_ildS, k_ildW, k_isub, k_s2r, k_is3, k_is4, k_il4, k_il3, k_icge, k_v2r, k_ist, k_is5, k_il5, k_is6, k_il6, k_ifne, k_dup2, k_ishl, k_ixor, k_goto, k_icne, k_v3r, k_v5, k_inc5, k_ifle, k_v2, k_v1, k_inc4, k_ri, zb0_some, zb1_some, e270_0, e270_1, e270_2, e270_5, e270_6, e270_9, e270_10, e270_13, e270_15, e270_16, e270_17, e270_20, e270_21, e270_22, e270_24, e270_26, e270_27, e270_30, e270_31, e270_34, e270_36, e270_37, e270_38, e270_41, e270_42, e270_43, e270_47, e270_48, e270_51, e270_52, e270_53, e270_56, e270_57, e270_59, e270_62, e270_64, e270_66, e270_69, e270_70, e270_73, e270_75, e270_76, e270_77, e270_78, e270_80, e270_81, e270_82, e270_83, e270_86, e270_88, e270_89, e270_92, e270_93, e270_95, e270_96, e270_99, e270_102, e270_103, e270_104, e270_106, e270_107, e270_108, e270_111, e270_114, e270_117, e270_118, e270_121, e270_122, e270_123, e270_126, e270_127, e270_128, e270_131, e270_132, e270_133, e270_136, e270_138, e270_139, e270_141, e270_144, e270_147, e270_148, e270_150, e270_153, e270_154, e270_157, e270_160, e270_163, e270_164, rm_o, r_draw, rm_40, rm_sd, c2, r_whyBuy, rm_S, rm_G, hU]
          · rw [if_neg c2]
            simp (disch := first | assumption | exact zrm0 | exact zrm1 _ | exact zrm2 _ _ | exact zrm3 _ _ _ | exact zrm4 _ _ _ _ | omega) only [m270, ↓k_dp, ↓k_dn, k_dp, k_dn, k_dT, k_dF, k_ip, k_in, if_true, if_false, ne_eq, not_true_eq_false, not_false_eq_true, Int.reduceAdd, zup_a, zup_e, zup_j, z32_id, k_al0, k_il2, k_pI, k_il1, k_ic, k_gR, k_ild, k_ildS, k_ildW, k_isub, k_s2r, k_is3, k_is4, k_il4, k_il3, k_icge, k_v2r, k_ist, k_is5, k_il5, k_is6, k_il6, k_ifne, k_dup2, k_ishl, k_ixor, k_goto, k_icne, k_v3r, k_v5, k_inc5, k_ifle, k_v2, k_v1, k_inc4, k_ri, zb0_some, zb1_some, e270_0, e270_1, e270_2, e270_5, e270_6, e270_9, e270_10, e270_13, e270_15, e270_16, e270_17, e270_20, e270_21, e270_22, e270_24, e270_26, e270_27, e270_30, e270_31, e270_34, e270_36, e270_37, e270_38, e270_41, e270_42, e270_43, e270_47, e270_48, e270_51, e270_52, e270_53, e270_56, e270_57, e270_59, e270_62, e270_64, e270_66, e270_69, e270_70, e270_73, e270_75, e270_76, e270_77, e270_78, e270_80, e270_81, e270_82, e270_83, e270_86, e270_88, e270_89, e270_92, e270_93, e270_95, e270_96, e270_99, e270_102, e270_103, e270_104, e270_106, e270_107, e270_108, e270_111, e270_114, e270_117, e270_118, e270_121, e270_122, e270_123, e270_126, e270_127, e270_128, e270_131, e270_132, e270_133, e270_136, e270_138, e270_139, e270_141, e270_144, e270_147, e270_148, e270_150, e270_153, e270_154, e270_157, e270_160, e270_163, e270_164, rm_o, r_draw, rm_40, rm_sd]
      · exact ⟨by omega, okD_hand hG h1 h0 (by rw [e7]; exact hk)⟩) (M 199 1).toNat 0 ((T, sd), l6) (by omega) ⟨Int.le_refl _, hT⟩
  have hf := zit_fst (F := fun (h : Int) (p : (zM × Int) × zV) => (dHand (zrG M) h p.1, ((0, dVal (dNext p.1.2) 10, 0) : zV))) (f := dHand (zrG M)) (fun _ _ => rfl) (M 199 1).toNat 0 ((T, sd), l6)
  dsimp only at hf
  rw [← hf]
  obtain ⟨h1, -⟩ := hl
  generalize zit (fun (h : Int) (p : (zM × Int) × zV) => (dHand (zrG M) h p.1, ((0, dVal (dNext p.1.2) 10, 0) : zV))) (M 199 1).toNat 0 ((T, sd), l6) = w at h1
  refine ⟨w.2, ?_⟩
  rw [h1, e270_45]
  obtain ⟨⟨U, su⟩, l⟩ := w
  dsimp only
  simp (disch := first | assumption | exact zrm0 | exact zrm1 _ | exact zrm2 _ _ | exact zrm3 _ _ _ | exact zrm4 _ _ _ _ | omega) only [m270, ↓k_dp, ↓k_dn, k_dp, k_dn, k_dT, k_dF, k_ip, k_in, if_true, if_false, ne_eq, not_true_eq_false, not_false_eq_true, Int.reduceAdd, zup_a, zup_e, zup_j, z32_id, k_al0, k_il2, k_pI, k_il1, k_ic, k_gR, k_ild, k_ildS, k_ildW, k_isub, k_s2r, k_is3, k_is4, k_il4, k_il3, k_icge, k_v2r, k_ist, k_is5, k_il5, k_is6, k_il6, k_ifne, k_dup2, k_ishl, k_ixor, k_goto, k_icne, k_v3r, k_v5, k_inc5, k_ifle, k_v2, k_v1, k_inc4, k_ri, zb0_some, zb1_some, e270_0, e270_1, e270_2, e270_5, e270_6, e270_9, e270_10, e270_13, e270_15, e270_16, e270_17, e270_20, e270_21, e270_22, e270_24, e270_26, e270_27, e270_30, e270_31, e270_34, e270_36, e270_37, e270_38, e270_41, e270_42, e270_43, e270_47, e270_48, e270_51, e270_52, e270_53, e270_56, e270_57, e270_59, e270_62, e270_64, e270_66, e270_69, e270_70, e270_73, e270_75, e270_76, e270_77, e270_78, e270_80, e270_81, e270_82, e270_83, e270_86, e270_88, e270_89, e270_92, e270_93, e270_95, e270_96, e270_99, e270_102, e270_103, e270_104, e270_106, e270_107, e270_108, e270_111, e270_114, e270_118, e270_121, e270_122, e270_123, e270_126, e270_127, e270_128, e270_131, e270_132, e270_133, e270_136, e270_138, e270_139, e270_141, e270_144, e270_147, e270_148, e270_150, e270_153, e270_154, e270_157, e270_160, e270_163, e270_164, rm_o]
