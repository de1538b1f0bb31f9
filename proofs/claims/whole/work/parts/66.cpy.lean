/-! copies of states, lands, sentences -/
theorem zcpy_o {M : zM} {a sp b dp n x y : Int} (h : x ≠ b) : zcpy M a sp b dp n x y = M x y := by simp [zcpy, h]
theorem zcpy_i {M : zM} {a sp b dp n y : Int} (h : dp ≤ y) (h2 : y < dp + n) (h3 : b ≠ -1) : zcpy M a sp b dp n b y = M a (sp + (y - dp)) := by simp [zcpy, h, h2, h3]
def cpS (M : zM) (a b : Int) : zM := zup (zup (zup (zcpy (zcpy (zcpy (zcpy (zcpy (zcpy (zcpy (zcpy M (b + 1) 0 (a + 1) 0 10) (b + 2) 0 (a + 2) 0 10) (b + 3) 0 (a + 3) 0 5) (b + 4) 0 (a + 4) 0 5) (b + 5) 0 (a + 5) 0 5) (b + 6) 0 (a + 6) 0 5) (b + 7) 0 (a + 7) 0 5) (b + 8) 0 (a + 8) 0 2) a 8 (M b 8)) a 9 (M b 9)) a 10 (M b 10)
theorem m113 (ph : Bool) (d : Nat) (a x0 p0 y0 : Int) (M : zM) : zEm ph (d + 1) 113 [(26, a, x0), (26, p0, y0)] M = zEv ph d 113 0 [(26, a, x0), (26, p0, y0)] [] M := rfl
theorem e113_0 (ph : Bool) (d : Nat) (L st : List zV) (M : zM) : zEv ph d 113 0 L st M = zcont ph d 113 (zstep ph (zEm ph d) 4 1 0 [1] L st M) := zEv_step rfl
theorem e113_1 (ph : Bool) (d : Nat) (L st : List zV) (M : zM) : zEv ph d 113 1 L st M = zcont ph d 113 (zstep ph (zEm ph d) 62 4 0 [26, 0, 1, 10, 10] L st M) := zEv_step rfl
theorem e113_4 (ph : Bool) (d : Nat) (L st : List zV) (M : zM) : zEv ph d 113 4 L st M = zcont ph d 113 (zstep ph (zEm ph d) 0 5 0 [0] L st M) := zEv_step rfl
theorem e113_5 (ph : Bool) (d : Nat) (L st : List zV) (M : zM) : zEv ph d 113 5 L st M = zcont ph d 113 (zstep ph (zEm ph d) 4 6 0 [0] L st M) := zEv_step rfl
theorem e113_6 (ph : Bool) (d : Nat) (L st : List zV) (M : zM) : zEv ph d 113 6 L st M = zcont ph d 113 (zstep ph (zEm ph d) 62 9 0 [26, 0, 1, 10, 10] L st M) := zEv_step rfl
theorem e113_9 (ph : Bool) (d : Nat) (L st : List zV) (M : zM) : zEv ph d 113 9 L st M = zcont ph d 113 (zstep ph (zEm ph d) 0 10 0 [0] L st M) := zEv_step rfl
theorem e113_10 (ph : Bool) (d : Nat) (L st : List zV) (M : zM) : zEv ph d 113 10 L st M = zcont ph d 113 (zstep ph (zEm ph d) 0 12 0 [10] L st M) := zEv_step rfl
theorem e113_12 (ph : Bool) (d : Nat) (L st : List zV) (M : zM) : zEv ph d 113 12 L st M = zcont ph d 113 (zstep ph (zEm ph d) 74 15 0 [] L st M) := zEv_step rfl
theorem e113_15 (ph : Bool) (d : Nat) (L st : List zV) (M : zM) : zEv ph d 113 15 L st M = zcont ph d 113 (zstep ph (zEm ph d) 4 16 0 [1] L st M) := zEv_step rfl
theorem e113_16 (ph : Bool) (d : Nat) (L st : List zV) (M : zM) : zEv ph d 113 16 L st M = zcont ph d 113 (zstep ph (zEm ph d) 62 19 0 [26, 1, 2, 10, 10] L st M) := zEv_step rfl
theorem e113_19 (ph : Bool) (d : Nat) (L st : List zV) (M : zM) : zEv ph d 113 19 L st M = zcont ph d 113 (zstep ph (zEm ph d) 0 20 0 [0] L st M) := zEv_step rfl
theorem e113_20 (ph : Bool) (d : Nat) (L st : List zV) (M : zM) : zEv ph d 113 20 L st M = zcont ph d 113 (zstep ph (zEm ph d) 4 21 0 [0] L st M) := zEv_step rfl
theorem e113_21 (ph : Bool) (d : Nat) (L st : List zV) (M : zM) : zEv ph d 113 21 L st M = zcont ph d 113 (zstep ph (zEm ph d) 62 24 0 [26, 1, 2, 10, 10] L st M) := zEv_step rfl
theorem e113_24 (ph : Bool) (d : Nat) (L st : List zV) (M : zM) : zEv ph d 113 24 L st M = zcont ph d 113 (zstep ph (zEm ph d) 0 25 0 [0] L st M) := zEv_step rfl
theorem e113_25 (ph : Bool) (d : Nat) (L st : List zV) (M : zM) : zEv ph d 113 25 L st M = zcont ph d 113 (zstep ph (zEm ph d) 0 27 0 [10] L st M) := zEv_step rfl
theorem e113_27 (ph : Bool) (d : Nat) (L st : List zV) (M : zM) : zEv ph d 113 27 L st M = zcont ph d 113 (zstep ph (zEm ph d) 74 30 0 [] L st M) := zEv_step rfl
theorem e113_30 (ph : Bool) (d : Nat) (L st : List zV) (M : zM) : zEv ph d 113 30 L st M = zcont ph d 113 (zstep ph (zEm ph d) 4 31 0 [1] L st M) := zEv_step rfl
theorem e113_31 (ph : Bool) (d : Nat) (L st : List zV) (M : zM) : zEv ph d 113 31 L st M = zcont ph d 113 (zstep ph (zEm ph d) 62 34 0 [26, 2, 3, 10, 5] L st M) := zEv_step rfl
theorem e113_34 (ph : Bool) (d : Nat) (L st : List zV) (M : zM) : zEv ph d 113 34 L st M = zcont ph d 113 (zstep ph (zEm ph d) 0 35 0 [0] L st M) := zEv_step rfl
theorem e113_35 (ph : Bool) (d : Nat) (L st : List zV) (M : zM) : zEv ph d 113 35 L st M = zcont ph d 113 (zstep ph (zEm ph d) 4 36 0 [0] L st M) := zEv_step rfl
theorem e113_36 (ph : Bool) (d : Nat) (L st : List zV) (M : zM) : zEv ph d 113 36 L st M = zcont ph d 113 (zstep ph (zEm ph d) 62 39 0 [26, 2, 3, 10, 5] L st M) := zEv_step rfl
theorem e113_39 (ph : Bool) (d : Nat) (L st : List zV) (M : zM) : zEv ph d 113 39 L st M = zcont ph d 113 (zstep ph (zEm ph d) 0 40 0 [0] L st M) := zEv_step rfl
theorem e113_40 (ph : Bool) (d : Nat) (L st : List zV) (M : zM) : zEv ph d 113 40 L st M = zcont ph d 113 (zstep ph (zEm ph d) 0 41 0 [5] L st M) := zEv_step rfl
theorem e113_41 (ph : Bool) (d : Nat) (L st : List zV) (M : zM) : zEv ph d 113 41 L st M = zcont ph d 113 (zstep ph (zEm ph d) 74 44 0 [] L st M) := zEv_step rfl
theorem e113_44 (ph : Bool) (d : Nat) (L st : List zV) (M : zM) : zEv ph d 113 44 L st M = zcont ph d 113 (zstep ph (zEm ph d) 4 45 0 [1] L st M) := zEv_step rfl
theorem e113_45 (ph : Bool) (d : Nat) (L st : List zV) (M : zM) : zEv ph d 113 45 L st M = zcont ph d 113 (zstep ph (zEm ph d) 62 48 0 [26, 3, 4, 10, 5] L st M) := zEv_step rfl
theorem e113_48 (ph : Bool) (d : Nat) (L st : List zV) (M : zM) : zEv ph d 113 48 L st M = zcont ph d 113 (zstep ph (zEm ph d) 0 49 0 [0] L st M) := zEv_step rfl
theorem e113_49 (ph : Bool) (d : Nat) (L st : List zV) (M : zM) : zEv ph d 113 49 L st M = zcont ph d 113 (zstep ph (zEm ph d) 4 50 0 [0] L st M) := zEv_step rfl
theorem e113_50 (ph : Bool) (d : Nat) (L st : List zV) (M : zM) : zEv ph d 113 50 L st M = zcont ph d 113 (zstep ph (zEm ph d) 62 53 0 [26, 3, 4, 10, 5] L st M) := zEv_step rfl
theorem e113_53 (ph : Bool) (d : Nat) (L st : List zV) (M : zM) : zEv ph d 113 53 L st M = zcont ph d 113 (zstep ph (zEm ph d) 0 54 0 [0] L st M) := zEv_step rfl
theorem e113_54 (ph : Bool) (d : Nat) (L st : List zV) (M : zM) : zEv ph d 113 54 L st M = zcont ph d 113 (zstep ph (zEm ph d) 0 55 0 [5] L st M) := zEv_step rfl
theorem e113_55 (ph : Bool) (d : Nat) (L st : List zV) (M : zM) : zEv ph d 113 55 L st M = zcont ph d 113 (zstep ph (zEm ph d) 74 58 0 [] L st M) := zEv_step rfl
theorem e113_58 (ph : Bool) (d : Nat) (L st : List zV) (M : zM) : zEv ph d 113 58 L st M = zcont ph d 113 (zstep ph (zEm ph d) 4 59 0 [1] L st M) := zEv_step rfl
theorem e113_59 (ph : Bool) (d : Nat) (L st : List zV) (M : zM) : zEv ph d 113 59 L st M = zcont ph d 113 (zstep ph (zEm ph d) 62 62 0 [26, 4, 5, 10, 5] L st M) := zEv_step rfl
theorem e113_62 (ph : Bool) (d : Nat) (L st : List zV) (M : zM) : zEv ph d 113 62 L st M = zcont ph d 113 (zstep ph (zEm ph d) 0 63 0 [0] L st M) := zEv_step rfl
theorem e113_63 (ph : Bool) (d : Nat) (L st : List zV) (M : zM) : zEv ph d 113 63 L st M = zcont ph d 113 (zstep ph (zEm ph d) 4 64 0 [0] L st M) := zEv_step rfl
theorem e113_64 (ph : Bool) (d : Nat) (L st : List zV) (M : zM) : zEv ph d 113 64 L st M = zcont ph d 113 (zstep ph (zEm ph d) 62 67 0 [26, 4, 5, 10, 5] L st M) := zEv_step rfl
theorem e113_67 (ph : Bool) (d : Nat) (L st : List zV) (M : zM) : zEv ph d 113 67 L st M = zcont ph d 113 (zstep ph (zEm ph d) 0 68 0 [0] L st M) := zEv_step rfl
theorem e113_68 (ph : Bool) (d : Nat) (L st : List zV) (M : zM) : zEv ph d 113 68 L st M = zcont ph d 113 (zstep ph (zEm ph d) 0 69 0 [5] L st M) := zEv_step rfl
theorem e113_69 (ph : Bool) (d : Nat) (L st : List zV) (M : zM) : zEv ph d 113 69 L st M = zcont ph d 113 (zstep ph (zEm ph d) 74 72 0 [] L st M) := zEv_step rfl
theorem e113_72 (ph : Bool) (d : Nat) (L st : List zV) (M : zM) : zEv ph d 113 72 L st M = zcont ph d 113 (zstep ph (zEm ph d) 4 73 0 [1] L st M) := zEv_step rfl
theorem e113_73 (ph : Bool) (d : Nat) (L st : List zV) (M : zM) : zEv ph d 113 73 L st M = zcont ph d 113 (zstep ph (zEm ph d) 62 76 0 [26, 5, 6, 10, 5] L st M) := zEv_step rfl
theorem e113_76 (ph : Bool) (d : Nat) (L st : List zV) (M : zM) : zEv ph d 113 76 L st M = zcont ph d 113 (zstep ph (zEm ph d) 0 77 0 [0] L st M) := zEv_step rfl
theorem e113_77 (ph : Bool) (d : Nat) (L st : List zV) (M : zM) : zEv ph d 113 77 L st M = zcont ph d 113 (zstep ph (zEm ph d) 4 78 0 [0] L st M) := zEv_step rfl
theorem e113_78 (ph : Bool) (d : Nat) (L st : List zV) (M : zM) : zEv ph d 113 78 L st M = zcont ph d 113 (zstep ph (zEm ph d) 62 81 0 [26, 5, 6, 10, 5] L st M) := zEv_step rfl
theorem e113_81 (ph : Bool) (d : Nat) (L st : List zV) (M : zM) : zEv ph d 113 81 L st M = zcont ph d 113 (zstep ph (zEm ph d) 0 82 0 [0] L st M) := zEv_step rfl
theorem e113_82 (ph : Bool) (d : Nat) (L st : List zV) (M : zM) : zEv ph d 113 82 L st M = zcont ph d 113 (zstep ph (zEm ph d) 0 83 0 [5] L st M) := zEv_step rfl
theorem e113_83 (ph : Bool) (d : Nat) (L st : List zV) (M : zM) : zEv ph d 113 83 L st M = zcont ph d 113 (zstep ph (zEm ph d) 74 86 0 [] L st M) := zEv_step rfl
theorem e113_86 (ph : Bool) (d : Nat) (L st : List zV) (M : zM) : zEv ph d 113 86 L st M = zcont ph d 113 (zstep ph (zEm ph d) 4 87 0 [1] L st M) := zEv_step rfl
theorem e113_87 (ph : Bool) (d : Nat) (L st : List zV) (M : zM) : zEv ph d 113 87 L st M = zcont ph d 113 (zstep ph (zEm ph d) 62 90 0 [26, 6, 7, 10, 5] L st M) := zEv_step rfl
theorem e113_90 (ph : Bool) (d : Nat) (L st : List zV) (M : zM) : zEv ph d 113 90 L st M = zcont ph d 113 (zstep ph (zEm ph d) 0 91 0 [0] L st M) := zEv_step rfl
theorem e113_91 (ph : Bool) (d : Nat) (L st : List zV) (M : zM) : zEv ph d 113 91 L st M = zcont ph d 113 (zstep ph (zEm ph d) 4 92 0 [0] L st M) := zEv_step rfl
theorem e113_92 (ph : Bool) (d : Nat) (L st : List zV) (M : zM) : zEv ph d 113 92 L st M = zcont ph d 113 (zstep ph (zEm ph d) 62 95 0 [26, 6, 7, 10, 5] L st M) := zEv_step rfl
theorem e113_95 (ph : Bool) (d : Nat) (L st : List zV) (M : zM) : zEv ph d 113 95 L st M = zcont ph d 113 (zstep ph (zEm ph d) 0 96 0 [0] L st M) := zEv_step rfl
theorem e113_96 (ph : Bool) (d : Nat) (L st : List zV) (M : zM) : zEv ph d 113 96 L st M = zcont ph d 113 (zstep ph (zEm ph d) 0 97 0 [5] L st M) := zEv_step rfl
theorem e113_97 (ph : Bool) (d : Nat) (L st : List zV) (M : zM) : zEv ph d 113 97 L st M = zcont ph d 113 (zstep ph (zEm ph d) 74 100 0 [] L st M) := zEv_step rfl
theorem e113_100 (ph : Bool) (d : Nat) (L st : List zV) (M : zM) : zEv ph d 113 100 L st M = zcont ph d 113 (zstep ph (zEm ph d) 4 101 0 [1] L st M) := zEv_step rfl
theorem e113_101 (ph : Bool) (d : Nat) (L st : List zV) (M : zM) : zEv ph d 113 101 L st M = zcont ph d 113 (zstep ph (zEm ph d) 62 104 0 [26, 7, 8, 10, 2] L st M) := zEv_step rfl
theorem e113_104 (ph : Bool) (d : Nat) (L st : List zV) (M : zM) : zEv ph d 113 104 L st M = zcont ph d 113 (zstep ph (zEm ph d) 0 105 0 [0] L st M) := zEv_step rfl
theorem e113_105 (ph : Bool) (d : Nat) (L st : List zV) (M : zM) : zEv ph d 113 105 L st M = zcont ph d 113 (zstep ph (zEm ph d) 4 106 0 [0] L st M) := zEv_step rfl
theorem e113_106 (ph : Bool) (d : Nat) (L st : List zV) (M : zM) : zEv ph d 113 106 L st M = zcont ph d 113 (zstep ph (zEm ph d) 62 109 0 [26, 7, 8, 10, 2] L st M) := zEv_step rfl
theorem e113_109 (ph : Bool) (d : Nat) (L st : List zV) (M : zM) : zEv ph d 113 109 L st M = zcont ph d 113 (zstep ph (zEm ph d) 0 110 0 [0] L st M) := zEv_step rfl
theorem e113_110 (ph : Bool) (d : Nat) (L st : List zV) (M : zM) : zEv ph d 113 110 L st M = zcont ph d 113 (zstep ph (zEm ph d) 0 111 0 [2] L st M) := zEv_step rfl
theorem e113_111 (ph : Bool) (d : Nat) (L st : List zV) (M : zM) : zEv ph d 113 111 L st M = zcont ph d 113 (zstep ph (zEm ph d) 74 114 0 [] L st M) := zEv_step rfl
theorem e113_114 (ph : Bool) (d : Nat) (L st : List zV) (M : zM) : zEv ph d 113 114 L st M = zcont ph d 113 (zstep ph (zEm ph d) 4 115 0 [0] L st M) := zEv_step rfl
theorem e113_115 (ph : Bool) (d : Nat) (L st : List zV) (M : zM) : zEv ph d 113 115 L st M = zcont ph d 113 (zstep ph (zEm ph d) 4 116 0 [1] L st M) := zEv_step rfl
theorem e113_116 (ph : Bool) (d : Nat) (L st : List zV) (M : zM) : zEv ph d 113 116 L st M = zcont ph d 113 (zstep ph (zEm ph d) 60 119 0 [26, 8] L st M) := zEv_step rfl
theorem e113_119 (ph : Bool) (d : Nat) (L st : List zV) (M : zM) : zEv ph d 113 119 L st M = zcont ph d 113 (zstep ph (zEm ph d) 65 122 0 [26, 8] L st M) := zEv_step rfl
theorem e113_122 (ph : Bool) (d : Nat) (L st : List zV) (M : zM) : zEv ph d 113 122 L st M = zcont ph d 113 (zstep ph (zEm ph d) 4 123 0 [0] L st M) := zEv_step rfl
theorem e113_123 (ph : Bool) (d : Nat) (L st : List zV) (M : zM) : zEv ph d 113 123 L st M = zcont ph d 113 (zstep ph (zEm ph d) 4 124 0 [1] L st M) := zEv_step rfl
theorem e113_124 (ph : Bool) (d : Nat) (L st : List zV) (M : zM) : zEv ph d 113 124 L st M = zcont ph d 113 (zstep ph (zEm ph d) 60 127 0 [26, 9] L st M) := zEv_step rfl
theorem e113_127 (ph : Bool) (d : Nat) (L st : List zV) (M : zM) : zEv ph d 113 127 L st M = zcont ph d 113 (zstep ph (zEm ph d) 65 130 0 [26, 9] L st M) := zEv_step rfl
theorem e113_130 (ph : Bool) (d : Nat) (L st : List zV) (M : zM) : zEv ph d 113 130 L st M = zcont ph d 113 (zstep ph (zEm ph d) 4 131 0 [0] L st M) := zEv_step rfl
theorem e113_131 (ph : Bool) (d : Nat) (L st : List zV) (M : zM) : zEv ph d 113 131 L st M = zcont ph d 113 (zstep ph (zEm ph d) 4 132 0 [1] L st M) := zEv_step rfl
theorem e113_132 (ph : Bool) (d : Nat) (L st : List zV) (M : zM) : zEv ph d 113 132 L st M = zcont ph d 113 (zstep ph (zEm ph d) 60 135 0 [26, 10] L st M) := zEv_step rfl
theorem e113_135 (ph : Bool) (d : Nat) (L st : List zV) (M : zM) : zEv ph d 113 135 L st M = zcont ph d 113 (zstep ph (zEm ph d) 65 138 0 [26, 10] L st M) := zEv_step rfl
theorem e113_138 (ph : Bool) (d : Nat) (L st : List zV) (M : zM) : zEv ph d 113 138 L st M = zcont ph d 113 (zstep ph (zEm ph d) 83 139 0 [] L st M) := zEv_step rfl
theorem s_copyS (d : Nat) (a x0 b x1 : Int) (M : zM) (h : a + 9 ≤ b ∨ b + 9 ≤ a) : zEm true (d + 1) 113 [(26, a, x0), (26, b, x1)] M = some ((98, 0, 0), cpS M a b) := by
  unfold cpS
  simp (disch := first | assumption | exact zrm0 | exact zrm1 _ | exact zrm2 _ _ | exact zrm3 _ _ _ | exact zrm4 _ _ _ _ | omega) only [m113, ↓k_dp, ↓k_dn, k_dp, k_dn, k_ip, k_in, if_true, if_false, ne_eq, not_true_eq_false, not_false_eq_true, Int.reduceAdd, zup_a, zup_e, zup_j, z32_id, k_al1, k_gR, k_ic, k_al0, k_cpy, k_cpyS, k_gI, k_pI, k_rv, e113_0, e113_1, e113_4, e113_5, e113_6, e113_9, e113_10, e113_12, e113_15, e113_16, e113_19, e113_20, e113_21, e113_24, e113_25, e113_27, e113_30, e113_31, e113_34, e113_35, e113_36, e113_39, e113_40, e113_41, e113_44, e113_45, e113_48, e113_49, e113_50, e113_53, e113_54, e113_55, e113_58, e113_59, e113_62, e113_63, e113_64, e113_67, e113_68, e113_69, e113_72, e113_73, e113_76, e113_77, e113_78, e113_81, e113_82, e113_83, e113_86, e113_87, e113_90, e113_91, e113_92, e113_95, e113_96, e113_97, e113_100, e113_101, e113_104, e113_105, e113_106, e113_109, e113_110, e113_111, e113_114, e113_115, e113_116, e113_119, e113_122, e113_123, e113_124, e113_127, e113_130, e113_131, e113_132, e113_135, e113_138, zcpy_o]
theorem cpS_o {M : zM} {a b x y : Int} (h : x < a ∨ a + 9 ≤ x) : cpS M a b x y = M x y := by
  unfold cpS
  simp (disch := omega) only [zup_a, zcpy_o]
theorem zvS_eq {M M' : zM} {a : Int} (h : ∀ x y, a ≤ x → x < a + 9 → M' x y = M x y) : zvS M' a = zvS M a := by
  funext i y
  unfold zvS
  by_cases hd : sdom i y
  · rw [zif_t hd, zif_t hd]
    exact h _ _ (by unfold sdom at hd; omega) (by unfold sdom at hd; omega)
  · rw [zif_f hd, zif_f hd]
theorem zvG_eq {M M' : zM} {a : Int} (h : ∀ x y, a ≤ x → x < a + 7 → M' x y = M x y) : zvG M' a = zvG M a := by
  have e : M' a 7 = M a 7 := h a 7 (by omega) (by omega)
  funext i y
  unfold zvG
  rw [e]
  by_cases hd : gdom (M a 7) i y
  · rw [zif_t hd, zif_t hd]
    exact h _ _ (by unfold gdom at hd; omega) (by unfold gdom at hd; omega)
  · rw [zif_f hd, zif_f hd]
theorem zvN_eq {M M' : zM} {a : Int} (h : ∀ x y, a ≤ x → x < a + 7 → M' x y = M x y) : zvN M' a = zvN M a := by
  funext i y
  unfold zvN
  by_cases hd : ndom i y
  · rw [zif_t hd, zif_t hd]
    exact h _ _ (by unfold ndom at hd; omega) (by unfold ndom at hd; omega)
  · rw [zif_f hd, zif_f hd]
theorem zvS_cp {M : zM} {a b : Int} (ha : 0 ≤ a) (h : a + 9 ≤ b ∨ b + 9 ≤ a) : zvS (cpS M a b) a = zvS M b := by
  funext i y
  unfold zvS
  by_cases hd : sdom i y
  · rw [zif_t hd, zif_t hd]
    have hc : (i = 0 ∧ (y = 8 ∨ y = 9 ∨ y = 10)) ∨ (i = 1 ∧ 0 ≤ y ∧ y < 10) ∨ (i = 2 ∧ 0 ≤ y ∧ y < 10) ∨ (i = 3 ∧ 0 ≤ y ∧ y < 5) ∨ (i = 4 ∧ 0 ≤ y ∧ y < 5) ∨ (i = 5 ∧ 0 ≤ y ∧ y < 5) ∨ (i = 6 ∧ 0 ≤ y ∧ y < 5) ∨ (i = 7 ∧ 0 ≤ y ∧ y < 5) ∨ (i = 8 ∧ 0 ≤ y ∧ y < 2) := by unfold sdom at hd; omega
    unfold cpS
    rcases hc with ⟨rfl, rfl | rfl | rfl⟩ | ⟨rfl, h1, h2⟩ | ⟨rfl, h1, h2⟩ | ⟨rfl, h1, h2⟩ | ⟨rfl, h1, h2⟩ | ⟨rfl, h1, h2⟩ | ⟨rfl, h1, h2⟩ | ⟨rfl, h1, h2⟩ | ⟨rfl, h1, h2⟩ <;>
      simp (disch := omega) only [Int.add_zero, zup_e, zup_a, zup_j, zcpy_o, zcpy_i, Int.zero_add, Int.sub_zero]
  · rw [zif_f hd, zif_f hd]
theorem zvS_cpo {M : zM} {a b c : Int} (h : a + 9 ≤ c ∨ c + 9 ≤ a) : zvS (cpS M a b) c = zvS M c := zvS_eq (fun _ _ _ _ => cpS_o (by omega))
theorem zvG_cpo {M : zM} {a b c : Int} (h : a + 9 ≤ c ∨ c + 7 ≤ a) : zvG (cpS M a b) c = zvG M c := zvG_eq (fun _ _ _ _ => cpS_o (by omega))
