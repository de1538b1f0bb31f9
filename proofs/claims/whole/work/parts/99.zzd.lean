/-! any line of a valley's text -/
theorem m80 (ph : Bool) (d : Nat) (a x0 : Int) (M : zM) : zEm ph (d + 1) 80 [(24, a, x0)] M = zEv ph d 80 0 [(24, a, x0)] [] M := rfl
theorem e80_0 (ph : Bool) (d : Nat) (L st : List zV) (M : zM) : zEv ph d 80 0 L st M = zcont ph d 80 (zstep ph (zEm ph d) 78 3 0 [0, 34] L st M) := zEv_step rfl
theorem e80_3 (ph : Bool) (d : Nat) (L st : List zV) (M : zM) : zEv ph d 80 3 L st M = zcont ph d 80 (zstep ph (zEm ph d) 4 4 0 [0] L st M) := zEv_step rfl
theorem e80_4 (ph : Bool) (d : Nat) (L st : List zV) (M : zM) : zEv ph d 80 4 L st M = zcont ph d 80 (zstep ph (zEm ph d) 62 7 0 [24, 0, 1, 27, 0] L st M) := zEv_step rfl
theorem e80_7 (ph : Bool) (d : Nat) (L st : List zV) (M : zM) : zEv ph d 80 7 L st M = zcont ph d 80 (zstep ph (zEm ph d) 63 10 0 [27, 7] L st M) := zEv_step rfl
theorem e80_10 (ph : Bool) (d : Nat) (L st : List zV) (M : zM) : zEv ph d 80 10 L st M = zcont ph d 80 (zstep ph (zEm ph d) 76 13 0 [] L st M) := zEv_step rfl
theorem e80_13 (ph : Bool) (d : Nat) (L st : List zV) (M : zM) : zEv ph d 80 13 L st M = zcont ph d 80 (zstep ph (zEm ph d) 85 14 0 [] L st M) := zEv_step rfl
theorem e80_14 (ph : Bool) (d : Nat) (a y : Int) (L st : List zV) (M : zM) : zEv ph d 80 14 L ((0, a, y) :: st) M = dite (a = 1) (fun _ => zEv ph d 80 64 L st M) (fun _ => dite (a = 2) (fun _ => zEv ph d 80 69 L st M) (fun _ => dite (a = 3) (fun _ => zEv ph d 80 74 L st M) (fun _ => dite (a = 4) (fun _ => zEv ph d 80 79 L st M) (fun _ => dite (a = 5) (fun _ => zEv ph d 80 84 L st M) (fun _ => dite (a = 6) (fun _ => zEv ph d 80 89 L st M) (fun _ => dite (a = 7) (fun _ => zEv ph d 80 104 L st M) (fun _ => dite (a = 8) (fun _ => zEv ph d 80 119 L st M) (fun _ => dite (a = 9) (fun _ => zEv ph d 80 124 L st M) (fun _ => zEv ph d 80 129 L st M))))))))) := (zEv_step (op := 56) (nx := 64) (tg := 129) (r := [1, 64, 69, 74, 79, 84, 89, 104, 119, 124]) rfl).trans (zts9 (fun q => zEv ph d 80 q L st M))
theorem e80_64 (ph : Bool) (d : Nat) (L st : List zV) (M : zM) : zEv ph d 80 64 L st M = zcont ph d 80 (zstep ph (zEm ph d) 4 65 0 [0] L st M) := zEv_step rfl
theorem e80_65 (ph : Bool) (d : Nat) (L st : List zV) (M : zM) : zEv ph d 80 65 L st M = zcont ph d 80 (zstep ph (zEm ph d) 70 68 82 [1, 1, 24] L st M) := zEv_step rfl
theorem e80_68 (ph : Bool) (d : Nat) (L st : List zV) (M : zM) : zEv ph d 80 68 L st M = zcont ph d 80 (zstep ph (zEm ph d) 80 69 0 [0, 1] L st M) := zEv_step rfl
theorem e80_69 (ph : Bool) (d : Nat) (L st : List zV) (M : zM) : zEv ph d 80 69 L st M = zcont ph d 80 (zstep ph (zEm ph d) 4 70 0 [0] L st M) := zEv_step rfl
theorem e80_70 (ph : Bool) (d : Nat) (L st : List zV) (M : zM) : zEv ph d 80 70 L st M = zcont ph d 80 (zstep ph (zEm ph d) 70 73 84 [1, 1, 24] L st M) := zEv_step rfl
theorem e80_73 (ph : Bool) (d : Nat) (L st : List zV) (M : zM) : zEv ph d 80 73 L st M = zcont ph d 80 (zstep ph (zEm ph d) 80 74 0 [0, 1] L st M) := zEv_step rfl
theorem e80_74 (ph : Bool) (d : Nat) (L st : List zV) (M : zM) : zEv ph d 80 74 L st M = zcont ph d 80 (zstep ph (zEm ph d) 4 75 0 [0] L st M) := zEv_step rfl
theorem e80_75 (ph : Bool) (d : Nat) (L st : List zV) (M : zM) : zEv ph d 80 75 L st M = zcont ph d 80 (zstep ph (zEm ph d) 70 78 83 [1, 1, 24] L st M) := zEv_step rfl
theorem e80_78 (ph : Bool) (d : Nat) (L st : List zV) (M : zM) : zEv ph d 80 78 L st M = zcont ph d 80 (zstep ph (zEm ph d) 80 79 0 [0, 1] L st M) := zEv_step rfl
theorem e80_79 (ph : Bool) (d : Nat) (L st : List zV) (M : zM) : zEv ph d 80 79 L st M = zcont ph d 80 (zstep ph (zEm ph d) 4 80 0 [0] L st M) := zEv_step rfl
theorem e80_80 (ph : Bool) (d : Nat) (L st : List zV) (M : zM) : zEv ph d 80 80 L st M = zcont ph d 80 (zstep ph (zEm ph d) 70 83 85 [1, 1, 24] L st M) := zEv_step rfl
theorem e80_83 (ph : Bool) (d : Nat) (L st : List zV) (M : zM) : zEv ph d 80 83 L st M = zcont ph d 80 (zstep ph (zEm ph d) 80 84 0 [0, 1] L st M) := zEv_step rfl
theorem e80_84 (ph : Bool) (d : Nat) (L st : List zV) (M : zM) : zEv ph d 80 84 L st M = zcont ph d 80 (zstep ph (zEm ph d) 4 85 0 [0] L st M) := zEv_step rfl
theorem e80_85 (ph : Bool) (d : Nat) (L st : List zV) (M : zM) : zEv ph d 80 85 L st M = zcont ph d 80 (zstep ph (zEm ph d) 70 88 86 [1, 1, 24] L st M) := zEv_step rfl
theorem e80_88 (ph : Bool) (d : Nat) (L st : List zV) (M : zM) : zEv ph d 80 88 L st M = zcont ph d 80 (zstep ph (zEm ph d) 80 89 0 [0, 1] L st M) := zEv_step rfl
theorem e80_89 (ph : Bool) (d : Nat) (L st : List zV) (M : zM) : zEv ph d 80 89 L st M = zcont ph d 80 (zstep ph (zEm ph d) 4 90 0 [0] L st M) := zEv_step rfl
theorem e80_90 (ph : Bool) (d : Nat) (L st : List zV) (M : zM) : zEv ph d 80 90 L st M = zcont ph d 80 (zstep ph (zEm ph d) 4 91 0 [0] L st M) := zEv_step rfl
theorem e80_91 (ph : Bool) (d : Nat) (L st : List zV) (M : zM) : zEv ph d 80 91 L st M = zcont ph d 80 (zstep ph (zEm ph d) 62 94 0 [24, 2, 10, 26, 0] L st M) := zEv_step rfl
theorem e80_94 (ph : Bool) (d : Nat) (L st : List zV) (M : zM) : zEv ph d 80 94 L st M = zcont ph d 80 (zstep ph (zEm ph d) 62 97 0 [26, 7, 8, 10, 2] L st M) := zEv_step rfl
theorem e80_97 (ph : Bool) (d : Nat) (L st : List zV) (M : zM) : zEv ph d 80 97 L st M = zcont ph d 80 (zstep ph (zEm ph d) 0 98 0 [1] L st M) := zEv_step rfl
theorem e80_98 (ph : Bool) (d : Nat) (L st : List zV) (M : zM) : zEv ph d 80 98 L st M = zcont ph d 80 (zstep ph (zEm ph d) 0 100 0 [20] L st M) := zEv_step rfl
theorem e80_100 (ph : Bool) (d : Nat) (L st : List zV) (M : zM) : zEv ph d 80 100 L st M = zcont ph d 80 (zstep ph (zEm ph d) 70 103 87 [4, 1, 24] L st M) := zEv_step rfl
theorem e80_103 (ph : Bool) (d : Nat) (L st : List zV) (M : zM) : zEv ph d 80 103 L st M = zcont ph d 80 (zstep ph (zEm ph d) 80 104 0 [0, 1] L st M) := zEv_step rfl
theorem e80_104 (ph : Bool) (d : Nat) (L st : List zV) (M : zM) : zEv ph d 80 104 L st M = zcont ph d 80 (zstep ph (zEm ph d) 4 105 0 [0] L st M) := zEv_step rfl
theorem e80_105 (ph : Bool) (d : Nat) (L st : List zV) (M : zM) : zEv ph d 80 105 L st M = zcont ph d 80 (zstep ph (zEm ph d) 4 106 0 [0] L st M) := zEv_step rfl
theorem e80_106 (ph : Bool) (d : Nat) (L st : List zV) (M : zM) : zEv ph d 80 106 L st M = zcont ph d 80 (zstep ph (zEm ph d) 62 109 0 [24, 1, 3, 28, 0] L st M) := zEv_step rfl
theorem e80_109 (ph : Bool) (d : Nat) (L st : List zV) (M : zM) : zEv ph d 80 109 L st M = zcont ph d 80 (zstep ph (zEm ph d) 62 112 0 [28, 5, 6, 10, 2] L st M) := zEv_step rfl
theorem e80_112 (ph : Bool) (d : Nat) (L st : List zV) (M : zM) : zEv ph d 80 112 L st M = zcont ph d 80 (zstep ph (zEm ph d) 0 113 0 [4] L st M) := zEv_step rfl
theorem e80_113 (ph : Bool) (d : Nat) (L st : List zV) (M : zM) : zEv ph d 80 113 L st M = zcont ph d 80 (zstep ph (zEm ph d) 0 115 0 [99] L st M) := zEv_step rfl
theorem e80_115 (ph : Bool) (d : Nat) (L st : List zV) (M : zM) : zEv ph d 80 115 L st M = zcont ph d 80 (zstep ph (zEm ph d) 70 118 87 [4, 1, 24] L st M) := zEv_step rfl
theorem e80_118 (ph : Bool) (d : Nat) (L st : List zV) (M : zM) : zEv ph d 80 118 L st M = zcont ph d 80 (zstep ph (zEm ph d) 80 119 0 [0, 1] L st M) := zEv_step rfl
theorem e80_119 (ph : Bool) (d : Nat) (L st : List zV) (M : zM) : zEv ph d 80 119 L st M = zcont ph d 80 (zstep ph (zEm ph d) 4 120 0 [0] L st M) := zEv_step rfl
theorem e80_120 (ph : Bool) (d : Nat) (L st : List zV) (M : zM) : zEv ph d 80 120 L st M = zcont ph d 80 (zstep ph (zEm ph d) 70 123 88 [1, 1, 24] L st M) := zEv_step rfl
theorem e80_123 (ph : Bool) (d : Nat) (L st : List zV) (M : zM) : zEv ph d 80 123 L st M = zcont ph d 80 (zstep ph (zEm ph d) 80 124 0 [0, 1] L st M) := zEv_step rfl
theorem e80_124 (ph : Bool) (d : Nat) (L st : List zV) (M : zM) : zEv ph d 80 124 L st M = zcont ph d 80 (zstep ph (zEm ph d) 4 125 0 [0] L st M) := zEv_step rfl
theorem e80_125 (ph : Bool) (d : Nat) (L st : List zV) (M : zM) : zEv ph d 80 125 L st M = zcont ph d 80 (zstep ph (zEm ph d) 70 128 89 [1, 1, 24] L st M) := zEv_step rfl
theorem e80_128 (ph : Bool) (d : Nat) (L st : List zV) (M : zM) : zEv ph d 80 128 L st M = zcont ph d 80 (zstep ph (zEm ph d) 80 129 0 [0, 1] L st M) := zEv_step rfl
theorem e80_129 (ph : Bool) (d : Nat) (L st : List zV) (M : zM) : zEv ph d 80 129 L st M = zcont ph d 80 (zstep ph (zEm ph d) 4 130 0 [0] L st M) := zEv_step rfl
theorem e80_130 (ph : Bool) (d : Nat) (L st : List zV) (M : zM) : zEv ph d 80 130 L st M = zcont ph d 80 (zstep ph (zEm ph d) 62 133 0 [24, 0, 1, 27, 0] L st M) := zEv_step rfl
theorem e80_133 (ph : Bool) (d : Nat) (L st : List zV) (M : zM) : zEv ph d 80 133 L st M = zcont ph d 80 (zstep ph (zEm ph d) 0 134 0 [1] L st M) := zEv_step rfl
theorem e80_134 (ph : Bool) (d : Nat) (L st : List zV) (M : zM) : zEv ph d 80 134 L st M = zcont ph d 80 (zstep ph (zEm ph d) 70 137 140 [2, 1, 27] L st M) := zEv_step rfl
theorem e80_137 (ph : Bool) (d : Nat) (L st : List zV) (M : zM) : zEv ph d 80 137 L st M = zcont ph d 80 (zstep ph (zEm ph d) 80 138 0 [0, 1] L st M) := zEv_step rfl
theorem zsw_all : ((List.range 34).all fun n => decide (n = 2 ∨ n = 3 ∨ n = 5 ∨ n = 6 ∨ n = 9 ∨ n = 10 ∨ n = 11 ∨ n = 12 ∨ n = 13) || (decide (zsta 5 0 n = 0) || decide (10 ≤ zsta 5 0 n))) = true := by decide +kernel
theorem zsw_no {w : Int} (w0 : 1 ≤ w) (w1 : w ≤ 34) (h : ¬ (w = 3 ∨ w = 4 ∨ w = 6 ∨ w = 7 ∨ w = 10 ∨ w = 11 ∨ w = 12 ∨ w = 13 ∨ w = 14)) : zsta 5 0 (w - 1) = 0 ∨ 10 ≤ zsta 5 0 (w - 1) := by
  have := zsw_all
  rw [List.all_eq_true] at this
  have := this (w - 1).toNat (List.mem_range.mpr (by omega))
  rw [Int.toNat_of_nonneg (by omega)] at this
  simp only [Bool.or_eq_true, decide_eq_true_eq] at this
  rcases this with z | z
  · omega
  · exact z
theorem p_line {A B : zM} (h : tkR A B) (v : vlP A B) (D E : Nat) (hD : 10 ≤ D) (hE : 10 ≤ E) (x0 y0 : Int) : ∃ A' B' r, zEm true D 80 [(24, 1, x0)] A = some ((0, r, 0), A') ∧ zEm true E 202 [(30, 197, y0)] B = some ((0, r, 0), B') ∧ frV A A' ∧ frW B B' ∧ lnC A A' B' r := by
  obtain ⟨d, rfl⟩ : ∃ d, D = d + 1 := ⟨D - 1, by omega⟩
  obtain ⟨e, rfl⟩ : ∃ e, E = e + 1 := ⟨E - 1, by omega⟩
  have wb := h.2.wb
  have w0 := p_isWord h (k := 0) (by omega) (by omega) e (by omega) y0 0
  rw [show wk 0 = 3 from rfl] at w0
  have w1 := p_isWord h (k := 1) (by omega) (by omega) e (by omega) y0 0
  rw [show wk 1 = 4 from rfl] at w1
  have w2 := p_isWord h (k := 2) (by omega) (by omega) e (by omega) y0 0
  rw [show wk 2 = 6 from rfl] at w2
  have w3 := p_isWord h (k := 3) (by omega) (by omega) e (by omega) y0 0
  rw [show wk 3 = 7 from rfl] at w3
  have w6 := p_isWord h (k := 6) (by omega) (by omega) e (by omega) y0 0
  rw [show wk 6 = 10 from rfl] at w6
  have w7 := p_isWord h (k := 7) (by omega) (by omega) e (by omega) y0 0
  rw [show wk 7 = 11 from rfl] at w7
  have w8 := p_isWord h (k := 8) (by omega) (by omega) e (by omega) y0 0
  rw [show wk 8 = 12 from rfl] at w8
  have w9 := p_isWord h (k := 9) (by omega) (by omega) e (by omega) y0 0
  rw [show wk 9 = 13 from rfl] at w9
  have w10 := p_isWord h (k := 10) (by omega) (by omega) e (by omega) y0 0
  rw [show wk 10 = 14 from rfl] at w10
  by_cases c0 : A 2 7 = 3
  · rw [if_pos c0] at w0
    have h2 := (tk_w2 h (k := 0) (by omega) (by omega) c0).2
    have sz : zsta 5 0 (A 2 7 - 1) = 1 := by rw [c0]; rfl
    obtain ⟨A', B', r, a1, a2, a3⟩ := p_street h v c0 d e (by omega) (by omega) x0 y0
    have hr : r = 0 ∨ r = 1 := by
      rcases a3.2.2 with z | z
      · exact Or.inr z.1
      · exact Or.inl z.1
    refine ⟨A', B', r, ?_, ?_, a3⟩
    · simp (disch := first | assumption | exact zrm0 | exact zrm1 _ | exact zrm2 _ _ | exact zrm3 _ _ _ | exact zrm4 _ _ _ _ | omega) only [m80, ↓k_dp, ↓k_dn, k_dp, k_dn, k_dT, k_dF, k_ip, k_in, if_true, if_false, ne_eq, not_true_eq_false, not_false_eq_true, Int.reduceAdd, zup_a, zup_e, zup_j, z32_id, k_sw, k_al0, k_gR, k_gE, k_ord, k_ild, k_ildS, k_ildW, k_v1r, k_rz, k_ic, k_v4r, k_v2r, zb0_some, zb1_some, e80_0, e80_3, e80_4, e80_7, e80_10, e80_13, e80_14, e80_64, e80_65, e80_68, e80_69, e80_70, e80_73, e80_74, e80_75, e80_78, e80_79, e80_80, e80_83, e80_84, e80_85, e80_88, e80_89, e80_90, e80_91, e80_94, e80_97, e80_98, e80_100, e80_103, e80_104, e80_105, e80_106, e80_109, e80_112, e80_113, e80_115, e80_118, e80_119, e80_120, e80_123, e80_124, e80_125, e80_128, e80_129, e80_130, e80_133, e80_134, e80_137, sz, a1]
    · simp (disch := first | assumption | exact zrm0 | exact zrm1 _ | exact zrm2 _ _ | exact zrm3 _ _ _ | exact zrm4 _ _ _ _ | omega) only [m202, ↓k_dp, ↓k_dn, k_dp, k_dn, k_dT, k_dF, k_ip, k_in, if_true, if_false, ne_eq, not_true_eq_false, not_false_eq_true, Int.reduceAdd, zup_a, zup_e, zup_j, z32_id, k_al0, k_ic, k_v2r, k_ifeq, k_v1r, k_rz, k_v4r, k_v3r, k_goto, zb0_some, zb1_some, e202_0, e202_1, e202_2, e202_5, e202_8, e202_9, e202_12, e202_13, e202_14, e202_15, e202_18, e202_21, e202_22, e202_25, e202_26, e202_27, e202_28, e202_31, e202_34, e202_35, e202_38, e202_39, e202_40, e202_41, e202_44, e202_47, e202_48, e202_51, e202_52, e202_53, e202_55, e202_58, e202_61, e202_62, e202_65, e202_66, e202_67, e202_69, e202_72, e202_75, e202_76, e202_77, e202_78, e202_80, e202_83, e202_84, e202_85, e202_87, e202_90, e202_93, e202_94, e202_96, e202_97, e202_99, e202_102, e202_103, e202_104, e202_106, e202_109, e202_112, e202_113, e202_114, e202_117, e202_120, e202_121, e202_122, e202_123, e202_124, e202_126, e202_129, e202_132, e202_135, e202_136, e202_139, e202_140, e202_141, e202_142, e202_144, e202_147, e202_150, e202_151, e202_152, e202_155, e202_158, e202_159, e202_160, e202_161, e202_162, e202_164, e202_167, e202_170, e202_173, e202_174, e202_177, e202_178, e202_181, e202_182, e202_183, e202_186, w0, a2]
  · rw [if_neg c0] at w0
    by_cases c1 : A 2 7 = 4
    · rw [if_pos c1] at w1
      have h2 := (tk_w2 h (k := 1) (by omega) (by omega) c1).2
      have sz : zsta 5 0 (A 2 7 - 1) = 2 := by rw [c1]; rfl
      obtain ⟨A', B', r, a1, a2, a3⟩ := p_hand h v h2 d e (by omega) (by omega) x0 y0
      have hr : r = 0 ∨ r = 1 := by
        rcases a3.2.2 with z | z
        · exact Or.inr z.1
        · exact Or.inl z.1
      refine ⟨A', B', r, ?_, ?_, a3⟩
      · simp (disch := first | assumption | exact zrm0 | exact zrm1 _ | exact zrm2 _ _ | exact zrm3 _ _ _ | exact zrm4 _ _ _ _ | omega) only [m80, ↓k_dp, ↓k_dn, k_dp, k_dn, k_dT, k_dF, k_ip, k_in, if_true, if_false, ne_eq, not_true_eq_false, not_false_eq_true, Int.reduceAdd, zup_a, zup_e, zup_j, z32_id, k_sw, k_al0, k_gR, k_gE, k_ord, k_ild, k_ildS, k_ildW, k_v1r, k_rz, k_ic, k_v4r, k_v2r, zb0_some, zb1_some, e80_0, e80_3, e80_4, e80_7, e80_10, e80_13, e80_14, e80_64, e80_65, e80_68, e80_69, e80_70, e80_73, e80_74, e80_75, e80_78, e80_79, e80_80, e80_83, e80_84, e80_85, e80_88, e80_89, e80_90, e80_91, e80_94, e80_97, e80_98, e80_100, e80_103, e80_104, e80_105, e80_106, e80_109, e80_112, e80_113, e80_115, e80_118, e80_119, e80_120, e80_123, e80_124, e80_125, e80_128, e80_129, e80_130, e80_133, e80_134, e80_137, sz, a1]
      · simp (disch := first | assumption | exact zrm0 | exact zrm1 _ | exact zrm2 _ _ | exact zrm3 _ _ _ | exact zrm4 _ _ _ _ | omega) only [m202, ↓k_dp, ↓k_dn, k_dp, k_dn, k_dT, k_dF, k_ip, k_in, if_true, if_false, ne_eq, not_true_eq_false, not_false_eq_true, Int.reduceAdd, zup_a, zup_e, zup_j, z32_id, k_al0, k_ic, k_v2r, k_ifeq, k_v1r, k_rz, k_v4r, k_v3r, k_goto, zb0_some, zb1_some, e202_0, e202_1, e202_2, e202_5, e202_8, e202_9, e202_12, e202_13, e202_14, e202_15, e202_18, e202_21, e202_22, e202_25, e202_26, e202_27, e202_28, e202_31, e202_34, e202_35, e202_38, e202_39, e202_40, e202_41, e202_44, e202_47, e202_48, e202_51, e202_52, e202_53, e202_55, e202_58, e202_61, e202_62, e202_65, e202_66, e202_67, e202_69, e202_72, e202_75, e202_76, e202_77, e202_78, e202_80, e202_83, e202_84, e202_85, e202_87, e202_90, e202_93, e202_94, e202_96, e202_97, e202_99, e202_102, e202_103, e202_104, e202_106, e202_109, e202_112, e202_113, e202_114, e202_117, e202_120, e202_121, e202_122, e202_123, e202_124, e202_126, e202_129, e202_132, e202_135, e202_136, e202_139, e202_140, e202_141, e202_142, e202_144, e202_147, e202_150, e202_151, e202_152, e202_155, e202_158, e202_159, e202_160, e202_161, e202_162, e202_164, e202_167, e202_170, e202_173, e202_174, e202_177, e202_178, e202_181, e202_182, e202_183, e202_186, w0, w1, a2]
    · rw [if_neg c1] at w1
      by_cases c2 : A 2 7 = 6
      · rw [if_pos c2] at w2
        have h2 := (tk_w2 h (k := 2) (by omega) (by omega) c2).2
        have sz : zsta 5 0 (A 2 7 - 1) = 3 := by rw [c2]; rfl
        obtain ⟨A', B', r, a1, a2, a3⟩ := p_question h v c2 d e (by omega) (by omega) x0 y0
        have hr : r = 0 ∨ r = 1 := by
          rcases a3.2.2 with z | z
          · exact Or.inr z.1
          · exact Or.inl z.1
        refine ⟨A', B', r, ?_, ?_, a3⟩
        · simp (disch := first | assumption | exact zrm0 | exact zrm1 _ | exact zrm2 _ _ | exact zrm3 _ _ _ | exact zrm4 _ _ _ _ | omega) only [m80, ↓k_dp, ↓k_dn, k_dp, k_dn, k_dT, k_dF, k_ip, k_in, if_true, if_false, ne_eq, not_true_eq_false, not_false_eq_true, Int.reduceAdd, zup_a, zup_e, zup_j, z32_id, k_sw, k_al0, k_gR, k_gE, k_ord, k_ild, k_ildS, k_ildW, k_v1r, k_rz, k_ic, k_v4r, k_v2r, zb0_some, zb1_some, e80_0, e80_3, e80_4, e80_7, e80_10, e80_13, e80_14, e80_64, e80_65, e80_68, e80_69, e80_70, e80_73, e80_74, e80_75, e80_78, e80_79, e80_80, e80_83, e80_84, e80_85, e80_88, e80_89, e80_90, e80_91, e80_94, e80_97, e80_98, e80_100, e80_103, e80_104, e80_105, e80_106, e80_109, e80_112, e80_113, e80_115, e80_118, e80_119, e80_120, e80_123, e80_124, e80_125, e80_128, e80_129, e80_130, e80_133, e80_134, e80_137, sz, a1]
        · simp (disch := first | assumption | exact zrm0 | exact zrm1 _ | exact zrm2 _ _ | exact zrm3 _ _ _ | exact zrm4 _ _ _ _ | omega) only [m202, ↓k_dp, ↓k_dn, k_dp, k_dn, k_dT, k_dF, k_ip, k_in, if_true, if_false, ne_eq, not_true_eq_false, not_false_eq_true, Int.reduceAdd, zup_a, zup_e, zup_j, z32_id, k_al0, k_ic, k_v2r, k_ifeq, k_v1r, k_rz, k_v4r, k_v3r, k_goto, zb0_some, zb1_some, e202_0, e202_1, e202_2, e202_5, e202_8, e202_9, e202_12, e202_13, e202_14, e202_15, e202_18, e202_21, e202_22, e202_25, e202_26, e202_27, e202_28, e202_31, e202_34, e202_35, e202_38, e202_39, e202_40, e202_41, e202_44, e202_47, e202_48, e202_51, e202_52, e202_53, e202_55, e202_58, e202_61, e202_62, e202_65, e202_66, e202_67, e202_69, e202_72, e202_75, e202_76, e202_77, e202_78, e202_80, e202_83, e202_84, e202_85, e202_87, e202_90, e202_93, e202_94, e202_96, e202_97, e202_99, e202_102, e202_103, e202_104, e202_106, e202_109, e202_112, e202_113, e202_114, e202_117, e202_120, e202_121, e202_122, e202_123, e202_124, e202_126, e202_129, e202_132, e202_135, e202_136, e202_139, e202_140, e202_141, e202_142, e202_144, e202_147, e202_150, e202_151, e202_152, e202_155, e202_158, e202_159, e202_160, e202_161, e202_162, e202_164, e202_167, e202_170, e202_173, e202_174, e202_177, e202_178, e202_181, e202_182, e202_183, e202_186, w0, w1, w2, a2]
      · rw [if_neg c2] at w2
        by_cases c3 : A 2 7 = 7
        · rw [if_pos c3] at w3
          have h2 := (tk_w2 h (k := 3) (by omega) (by omega) c3).2
          have sz : zsta 5 0 (A 2 7 - 1) = 4 := by rw [c3]; rfl
          obtain ⟨A', B', r, a1, a2, a3⟩ := p_wants h v h2 d e (by omega) (by omega) x0 y0
          have hr : r = 0 ∨ r = 1 := by
            rcases a3.2.2 with z | z
            · exact Or.inr z.1
            · exact Or.inl z.1
          refine ⟨A', B', r, ?_, ?_, a3⟩
          · simp (disch := first | assumption | exact zrm0 | exact zrm1 _ | exact zrm2 _ _ | exact zrm3 _ _ _ | exact zrm4 _ _ _ _ | omega) only [m80, ↓k_dp, ↓k_dn, k_dp, k_dn, k_dT, k_dF, k_ip, k_in, if_true, if_false, ne_eq, not_true_eq_false, not_false_eq_true, Int.reduceAdd, zup_a, zup_e, zup_j, z32_id, k_sw, k_al0, k_gR, k_gE, k_ord, k_ild, k_ildS, k_ildW, k_v1r, k_rz, k_ic, k_v4r, k_v2r, zb0_some, zb1_some, e80_0, e80_3, e80_4, e80_7, e80_10, e80_13, e80_14, e80_64, e80_65, e80_68, e80_69, e80_70, e80_73, e80_74, e80_75, e80_78, e80_79, e80_80, e80_83, e80_84, e80_85, e80_88, e80_89, e80_90, e80_91, e80_94, e80_97, e80_98, e80_100, e80_103, e80_104, e80_105, e80_106, e80_109, e80_112, e80_113, e80_115, e80_118, e80_119, e80_120, e80_123, e80_124, e80_125, e80_128, e80_129, e80_130, e80_133, e80_134, e80_137, sz, a1]
          · simp (disch := first | assumption | exact zrm0 | exact zrm1 _ | exact zrm2 _ _ | exact zrm3 _ _ _ | exact zrm4 _ _ _ _ | omega) only [m202, ↓k_dp, ↓k_dn, k_dp, k_dn, k_dT, k_dF, k_ip, k_in, if_true, if_false, ne_eq, not_true_eq_false, not_false_eq_true, Int.reduceAdd, zup_a, zup_e, zup_j, z32_id, k_al0, k_ic, k_v2r, k_ifeq, k_v1r, k_rz, k_v4r, k_v3r, k_goto, zb0_some, zb1_some, e202_0, e202_1, e202_2, e202_5, e202_8, e202_9, e202_12, e202_13, e202_14, e202_15, e202_18, e202_21, e202_22, e202_25, e202_26, e202_27, e202_28, e202_31, e202_34, e202_35, e202_38, e202_39, e202_40, e202_41, e202_44, e202_47, e202_48, e202_51, e202_52, e202_53, e202_55, e202_58, e202_61, e202_62, e202_65, e202_66, e202_67, e202_69, e202_72, e202_75, e202_76, e202_77, e202_78, e202_80, e202_83, e202_84, e202_85, e202_87, e202_90, e202_93, e202_94, e202_96, e202_97, e202_99, e202_102, e202_103, e202_104, e202_106, e202_109, e202_112, e202_113, e202_114, e202_117, e202_120, e202_121, e202_122, e202_123, e202_124, e202_126, e202_129, e202_132, e202_135, e202_136, e202_139, e202_140, e202_141, e202_142, e202_144, e202_147, e202_150, e202_151, e202_152, e202_155, e202_158, e202_159, e202_160, e202_161, e202_162, e202_164, e202_167, e202_170, e202_173, e202_174, e202_177, e202_178, e202_181, e202_182, e202_183, e202_186, w0, w1, w2, w3, a2]
        · rw [if_neg c3] at w3
          by_cases c4 : A 2 7 = 10
          · rw [if_pos c4] at w6
            have h2 := (tk_w2 h (k := 6) (by omega) (by omega) c4).2
            have sz : zsta 5 0 (A 2 7 - 1) = 5 := by rw [c4]; rfl
            obtain ⟨A', B', r, a1, a2, a3⟩ := p_grants h v h2 d e (by omega) (by omega) x0 y0
            have hr : r = 0 ∨ r = 1 := by
              rcases a3.2.2 with z | z
              · exact Or.inr z.1
              · exact Or.inl z.1
            refine ⟨A', B', r, ?_, ?_, a3⟩
            · simp (disch := first | assumption | exact zrm0 | exact zrm1 _ | exact zrm2 _ _ | exact zrm3 _ _ _ | exact zrm4 _ _ _ _ | omega) only [m80, ↓k_dp, ↓k_dn, k_dp, k_dn, k_dT, k_dF, k_ip, k_in, if_true, if_false, ne_eq, not_true_eq_false, not_false_eq_true, Int.reduceAdd, zup_a, zup_e, zup_j, z32_id, k_sw, k_al0, k_gR, k_gE, k_ord, k_ild, k_ildS, k_ildW, k_v1r, k_rz, k_ic, k_v4r, k_v2r, zb0_some, zb1_some, e80_0, e80_3, e80_4, e80_7, e80_10, e80_13, e80_14, e80_64, e80_65, e80_68, e80_69, e80_70, e80_73, e80_74, e80_75, e80_78, e80_79, e80_80, e80_83, e80_84, e80_85, e80_88, e80_89, e80_90, e80_91, e80_94, e80_97, e80_98, e80_100, e80_103, e80_104, e80_105, e80_106, e80_109, e80_112, e80_113, e80_115, e80_118, e80_119, e80_120, e80_123, e80_124, e80_125, e80_128, e80_129, e80_130, e80_133, e80_134, e80_137, sz, a1]
            · simp (disch := first | assumption | exact zrm0 | exact zrm1 _ | exact zrm2 _ _ | exact zrm3 _ _ _ | exact zrm4 _ _ _ _ | omega) only [m202, ↓k_dp, ↓k_dn, k_dp, k_dn, k_dT, k_dF, k_ip, k_in, if_true, if_false, ne_eq, not_true_eq_false, not_false_eq_true, Int.reduceAdd, zup_a, zup_e, zup_j, z32_id, k_al0, k_ic, k_v2r, k_ifeq, k_v1r, k_rz, k_v4r, k_v3r, k_goto, zb0_some, zb1_some, e202_0, e202_1, e202_2, e202_5, e202_8, e202_9, e202_12, e202_13, e202_14, e202_15, e202_18, e202_21, e202_22, e202_25, e202_26, e202_27, e202_28, e202_31, e202_34, e202_35, e202_38, e202_39, e202_40, e202_41, e202_44, e202_47, e202_48, e202_51, e202_52, e202_53, e202_55, e202_58, e202_61, e202_62, e202_65, e202_66, e202_67, e202_69, e202_72, e202_75, e202_76, e202_77, e202_78, e202_80, e202_83, e202_84, e202_85, e202_87, e202_90, e202_93, e202_94, e202_96, e202_97, e202_99, e202_102, e202_103, e202_104, e202_106, e202_109, e202_112, e202_113, e202_114, e202_117, e202_120, e202_121, e202_122, e202_123, e202_124, e202_126, e202_129, e202_132, e202_135, e202_136, e202_139, e202_140, e202_141, e202_142, e202_144, e202_147, e202_150, e202_151, e202_152, e202_155, e202_158, e202_159, e202_160, e202_161, e202_162, e202_164, e202_167, e202_170, e202_173, e202_174, e202_177, e202_178, e202_181, e202_182, e202_183, e202_186, w0, w1, w2, w3, w6, a2]
          · rw [if_neg c4] at w6
            by_cases c5 : A 2 7 = 11
            · rw [if_pos c5] at w7
              have h2 := (tk_w2 h (k := 7) (by omega) (by omega) c5).2
              have sz : zsta 5 0 (A 2 7 - 1) = 6 := by rw [c5]; rfl
              obtain ⟨A', B', r, a1, a2, a3⟩ := p_sand h v h2 d e (by omega) (by omega) x0 y0 0 0 0 0 0
              have hr : r = 0 ∨ r = 1 := by
                rcases a3.2.2 with z | z
                · exact Or.inr z.1
                · exact Or.inl z.1
              refine ⟨A', B', r, ?_, ?_, a3⟩
              · simp (disch := first | assumption | exact zrm0 | exact zrm1 _ | exact zrm2 _ _ | exact zrm3 _ _ _ | exact zrm4 _ _ _ _ | omega) only [m80, ↓k_dp, ↓k_dn, k_dp, k_dn, k_dT, k_dF, k_ip, k_in, if_true, if_false, ne_eq, not_true_eq_false, not_false_eq_true, Int.reduceAdd, zup_a, zup_e, zup_j, z32_id, k_sw, k_al0, k_gR, k_gE, k_ord, k_ild, k_ildS, k_ildW, k_v1r, k_rz, k_ic, k_v4r, k_v2r, zb0_some, zb1_some, e80_0, e80_3, e80_4, e80_7, e80_10, e80_13, e80_14, e80_64, e80_65, e80_68, e80_69, e80_70, e80_73, e80_74, e80_75, e80_78, e80_79, e80_80, e80_83, e80_84, e80_85, e80_88, e80_89, e80_90, e80_91, e80_94, e80_97, e80_98, e80_100, e80_103, e80_104, e80_105, e80_106, e80_109, e80_112, e80_113, e80_115, e80_118, e80_119, e80_120, e80_123, e80_124, e80_125, e80_128, e80_129, e80_130, e80_133, e80_134, e80_137, sz, a1]
              · simp (disch := first | assumption | exact zrm0 | exact zrm1 _ | exact zrm2 _ _ | exact zrm3 _ _ _ | exact zrm4 _ _ _ _ | omega) only [m202, ↓k_dp, ↓k_dn, k_dp, k_dn, k_dT, k_dF, k_ip, k_in, if_true, if_false, ne_eq, not_true_eq_false, not_false_eq_true, Int.reduceAdd, zup_a, zup_e, zup_j, z32_id, k_al0, k_ic, k_v2r, k_ifeq, k_v1r, k_rz, k_v4r, k_v3r, k_goto, zb0_some, zb1_some, e202_0, e202_1, e202_2, e202_5, e202_8, e202_9, e202_12, e202_13, e202_14, e202_15, e202_18, e202_21, e202_22, e202_25, e202_26, e202_27, e202_28, e202_31, e202_34, e202_35, e202_38, e202_39, e202_40, e202_41, e202_44, e202_47, e202_48, e202_51, e202_52, e202_53, e202_55, e202_58, e202_61, e202_62, e202_65, e202_66, e202_67, e202_69, e202_72, e202_75, e202_76, e202_77, e202_78, e202_80, e202_83, e202_84, e202_85, e202_87, e202_90, e202_93, e202_94, e202_96, e202_97, e202_99, e202_102, e202_103, e202_104, e202_106, e202_109, e202_112, e202_113, e202_114, e202_117, e202_120, e202_121, e202_122, e202_123, e202_124, e202_126, e202_129, e202_132, e202_135, e202_136, e202_139, e202_140, e202_141, e202_142, e202_144, e202_147, e202_150, e202_151, e202_152, e202_155, e202_158, e202_159, e202_160, e202_161, e202_162, e202_164, e202_167, e202_170, e202_173, e202_174, e202_177, e202_178, e202_181, e202_182, e202_183, e202_186, w0, w1, w2, w3, w6, w7, a2]
            · rw [if_neg c5] at w7
              by_cases c6 : A 2 7 = 12
              · rw [if_pos c6] at w8
                have h2 := (tk_w2 h (k := 8) (by omega) (by omega) c6).2
                have sz : zsta 5 0 (A 2 7 - 1) = 7 := by rw [c6]; rfl
                obtain ⟨A', B', r, a1, a2, a3⟩ := p_echo h v h2 d e (by omega) (by omega) x0 y0 0 0 0 0 0
                have hr : r = 0 ∨ r = 1 := by
                  rcases a3.2.2 with z | z
                  · exact Or.inr z.1
                  · exact Or.inl z.1
                refine ⟨A', B', r, ?_, ?_, a3⟩
                · simp (disch := first | assumption | exact zrm0 | exact zrm1 _ | exact zrm2 _ _ | exact zrm3 _ _ _ | exact zrm4 _ _ _ _ | omega) only [m80, ↓k_dp, ↓k_dn, k_dp, k_dn, k_dT, k_dF, k_ip, k_in, if_true, if_false, ne_eq, not_true_eq_false, not_false_eq_true, Int.reduceAdd, zup_a, zup_e, zup_j, z32_id, k_sw, k_al0, k_gR, k_gE, k_ord, k_ild, k_ildS, k_ildW, k_v1r, k_rz, k_ic, k_v4r, k_v2r, zb0_some, zb1_some, e80_0, e80_3, e80_4, e80_7, e80_10, e80_13, e80_14, e80_64, e80_65, e80_68, e80_69, e80_70, e80_73, e80_74, e80_75, e80_78, e80_79, e80_80, e80_83, e80_84, e80_85, e80_88, e80_89, e80_90, e80_91, e80_94, e80_97, e80_98, e80_100, e80_103, e80_104, e80_105, e80_106, e80_109, e80_112, e80_113, e80_115, e80_118, e80_119, e80_120, e80_123, e80_124, e80_125, e80_128, e80_129, e80_130, e80_133, e80_134, e80_137, sz, a1]
                · simp (disch := first | assumption | exact zrm0 | exact zrm1 _ | exact zrm2 _ _ | exact zrm3 _ _ _ | exact zrm4 _ _ _ _ | omega) only [m202, ↓k_dp, ↓k_dn, k_dp, k_dn, k_dT, k_dF, k_ip, k_in, if_true, if_false, ne_eq, not_true_eq_false, not_false_eq_true, Int.reduceAdd, zup_a, zup_e, zup_j, z32_id, k_al0, k_ic, k_v2r, k_ifeq, k_v1r, k_rz, k_v4r, k_v3r, k_goto, zb0_some, zb1_some, e202_0, e202_1, e202_2, e202_5, e202_8, e202_9, e202_12, e202_13, e202_14, e202_15, e202_18, e202_21, e202_22, e202_25, e202_26, e202_27, e202_28, e202_31, e202_34, e202_35, e202_38, e202_39, e202_40, e202_41, e202_44, e202_47, e202_48, e202_51, e202_52, e202_53, e202_55, e202_58, e202_61, e202_62, e202_65, e202_66, e202_67, e202_69, e202_72, e202_75, e202_76, e202_77, e202_78, e202_80, e202_83, e202_84, e202_85, e202_87, e202_90, e202_93, e202_94, e202_96, e202_97, e202_99, e202_102, e202_103, e202_104, e202_106, e202_109, e202_112, e202_113, e202_114, e202_117, e202_120, e202_121, e202_122, e202_123, e202_124, e202_126, e202_129, e202_132, e202_135, e202_136, e202_139, e202_140, e202_141, e202_142, e202_144, e202_147, e202_150, e202_151, e202_152, e202_155, e202_158, e202_159, e202_160, e202_161, e202_162, e202_164, e202_167, e202_170, e202_173, e202_174, e202_177, e202_178, e202_181, e202_182, e202_183, e202_186, w0, w1, w2, w3, w6, w7, w8, a2]
              · rw [if_neg c6] at w8
                by_cases c7 : A 2 7 = 13
                · rw [if_pos c7] at w9
                  have h2 := (tk_w2 h (k := 9) (by omega) (by omega) c7).2
                  have sz : zsta 5 0 (A 2 7 - 1) = 8 := by rw [c7]; rfl
                  obtain ⟨A', B', r, a1, a2, a3⟩ := p_price h v c7 d e (by omega) (by omega) x0 y0
                  have hr : r = 0 ∨ r = 1 := by
                    rcases a3.2.2 with z | z
                    · exact Or.inr z.1
                    · exact Or.inl z.1
                  refine ⟨A', B', r, ?_, ?_, a3⟩
                  · simp (disch := first | assumption | exact zrm0 | exact zrm1 _ | exact zrm2 _ _ | exact zrm3 _ _ _ | exact zrm4 _ _ _ _ | omega) only [m80, ↓k_dp, ↓k_dn, k_dp, k_dn, k_dT, k_dF, k_ip, k_in, if_true, if_false, ne_eq, not_true_eq_false, not_false_eq_true, Int.reduceAdd, zup_a, zup_e, zup_j, z32_id, k_sw, k_al0, k_gR, k_gE, k_ord, k_ild, k_ildS, k_ildW, k_v1r, k_rz, k_ic, k_v4r, k_v2r, zb0_some, zb1_some, e80_0, e80_3, e80_4, e80_7, e80_10, e80_13, e80_14, e80_64, e80_65, e80_68, e80_69, e80_70, e80_73, e80_74, e80_75, e80_78, e80_79, e80_80, e80_83, e80_84, e80_85, e80_88, e80_89, e80_90, e80_91, e80_94, e80_97, e80_98, e80_100, e80_103, e80_104, e80_105, e80_106, e80_109, e80_112, e80_113, e80_115, e80_118, e80_119, e80_120, e80_123, e80_124, e80_125, e80_128, e80_129, e80_130, e80_133, e80_134, e80_137, sz, a1]
                  · simp (disch := first | assumption | exact zrm0 | exact zrm1 _ | exact zrm2 _ _ | exact zrm3 _ _ _ | exact zrm4 _ _ _ _ | omega) only [m202, ↓k_dp, ↓k_dn, k_dp, k_dn, k_dT, k_dF, k_ip, k_in, if_true, if_false, ne_eq, not_true_eq_false, not_false_eq_true, Int.reduceAdd, zup_a, zup_e, zup_j, z32_id, k_al0, k_ic, k_v2r, k_ifeq, k_v1r, k_rz, k_v4r, k_v3r, k_goto, zb0_some, zb1_some, e202_0, e202_1, e202_2, e202_5, e202_8, e202_9, e202_12, e202_13, e202_14, e202_15, e202_18, e202_21, e202_22, e202_25, e202_26, e202_27, e202_28, e202_31, e202_34, e202_35, e202_38, e202_39, e202_40, e202_41, e202_44, e202_47, e202_48, e202_51, e202_52, e202_53, e202_55, e202_58, e202_61, e202_62, e202_65, e202_66, e202_67, e202_69, e202_72, e202_75, e202_76, e202_77, e202_78, e202_80, e202_83, e202_84, e202_85, e202_87, e202_90, e202_93, e202_94, e202_96, e202_97, e202_99, e202_102, e202_103, e202_104, e202_106, e202_109, e202_113, e202_114, e202_117, e202_120, e202_121, e202_122, e202_123, e202_124, e202_126, e202_129, e202_132, e202_135, e202_136, e202_139, e202_140, e202_141, e202_142, e202_144, e202_147, e202_150, e202_151, e202_152, e202_155, e202_158, e202_159, e202_160, e202_161, e202_162, e202_164, e202_167, e202_170, e202_173, e202_174, e202_177, e202_178, e202_181, e202_182, e202_183, e202_186, w0, w1, w2, w3, w6, w7, w8, w9, a2]
                · rw [if_neg c7] at w9
                  by_cases c8 : A 2 7 = 14
                  · rw [if_pos c8] at w10
                    have h2 := (tk_w2 h (k := 10) (by omega) (by omega) c8).2
                    have sz : zsta 5 0 (A 2 7 - 1) = 9 := by rw [c8]; rfl
                    obtain ⟨A', B', r, a1, a2, a3⟩ := p_wage h v c8 d e (by omega) (by omega) x0 y0
                    have hr : r = 0 ∨ r = 1 := by
                      rcases a3.2.2 with z | z
                      · exact Or.inr z.1
                      · exact Or.inl z.1
                    refine ⟨A', B', r, ?_, ?_, a3⟩
                    · simp (disch := first | assumption | exact zrm0 | exact zrm1 _ | exact zrm2 _ _ | exact zrm3 _ _ _ | exact zrm4 _ _ _ _ | omega) only [m80, ↓k_dp, ↓k_dn, k_dp, k_dn, k_dT, k_dF, k_ip, k_in, if_true, if_false, ne_eq, not_true_eq_false, not_false_eq_true, Int.reduceAdd, zup_a, zup_e, zup_j, z32_id, k_sw, k_al0, k_gR, k_gE, k_ord, k_ild, k_ildS, k_ildW, k_v1r, k_rz, k_ic, k_v4r, k_v2r, zb0_some, zb1_some, e80_0, e80_3, e80_4, e80_7, e80_10, e80_13, e80_14, e80_64, e80_65, e80_68, e80_69, e80_70, e80_73, e80_74, e80_75, e80_78, e80_79, e80_80, e80_83, e80_84, e80_85, e80_88, e80_89, e80_90, e80_91, e80_94, e80_97, e80_98, e80_100, e80_103, e80_104, e80_105, e80_106, e80_109, e80_112, e80_113, e80_115, e80_118, e80_119, e80_120, e80_123, e80_124, e80_125, e80_128, e80_129, e80_130, e80_133, e80_134, e80_137, sz, a1]
                    · simp (disch := first | assumption | exact zrm0 | exact zrm1 _ | exact zrm2 _ _ | exact zrm3 _ _ _ | exact zrm4 _ _ _ _ | omega) only [m202, ↓k_dp, ↓k_dn, k_dp, k_dn, k_dT, k_dF, k_ip, k_in, if_true, if_false, ne_eq, not_true_eq_false, not_false_eq_true, Int.reduceAdd, zup_a, zup_e, zup_j, z32_id, k_al0, k_ic, k_v2r, k_ifeq, k_v1r, k_rz, k_v4r, k_v3r, k_goto, zb0_some, zb1_some, e202_0, e202_1, e202_2, e202_5, e202_8, e202_9, e202_12, e202_13, e202_14, e202_15, e202_18, e202_21, e202_22, e202_25, e202_26, e202_27, e202_28, e202_31, e202_34, e202_35, e202_38, e202_39, e202_40, e202_41, e202_44, e202_47, e202_48, e202_51, e202_52, e202_53, e202_55, e202_58, e202_61, e202_62, e202_65, e202_66, e202_67, e202_69, e202_72, e202_75, e202_76, e202_77, e202_78, e202_80, e202_83, e202_84, e202_85, e202_87, e202_90, e202_93, e202_94, e202_96, e202_97, e202_99, e202_102, e202_103, e202_104, e202_106, e202_109, e202_112, e202_113, e202_114, e202_117, e202_120, e202_121, e202_122, e202_123, e202_124, e202_126, e202_129, e202_132, e202_135, e202_136, e202_139, e202_140, e202_141, e202_142, e202_144, e202_147, e202_151, e202_152, e202_155, e202_158, e202_159, e202_160, e202_161, e202_162, e202_164, e202_167, e202_170, e202_173, e202_174, e202_177, e202_178, e202_181, e202_182, e202_183, e202_186, w0, w1, w2, w3, w6, w7, w8, w9, w10, a2]
                  · rw [if_neg c8] at w10
                    obtain ⟨Af, Bf, f1, f2, f3, f4, f5⟩ := p_fail h (k := 1) (by omega) (by omega) (fun _ => rfl)
                    have f1' := f1 d 0 0 (by omega)
                    have f2' := f2 e y0 0 (by omega)
                    have sz := zsw_no wb.1 wb.2 (by omega)
                    refine ⟨Af, Bf, 0, ?_, ?_, frV_X frV_r f3, frW_Y frW_r f4, Or.inr ⟨rfl, f5⟩⟩
                    · generalize hg : zsta 5 0 (A 2 7 - 1) = g at *
                      simp (disch := first | assumption | exact zrm0 | exact zrm1 _ | exact zrm2 _ _ | exact zrm3 _ _ _ | exact zrm4 _ _ _ _ | omega) only [m80, ↓k_dp, ↓k_dn, k_dp, k_dn, k_dT, k_dF, k_ip, k_in, if_true, if_false, ne_eq, not_true_eq_false, not_false_eq_true, Int.reduceAdd, zup_a, zup_e, zup_j, z32_id, k_sw, k_al0, k_gR, k_gE, k_ord, k_ild, k_ildS, k_ildW, k_v1r, k_rz, k_ic, k_v4r, k_v2r, zb0_some, zb1_some, e80_0, e80_3, e80_4, e80_7, e80_10, e80_13, e80_14, e80_64, e80_65, e80_68, e80_69, e80_70, e80_73, e80_74, e80_75, e80_78, e80_79, e80_80, e80_83, e80_84, e80_85, e80_88, e80_89, e80_90, e80_91, e80_94, e80_97, e80_98, e80_100, e80_103, e80_104, e80_105, e80_106, e80_109, e80_112, e80_113, e80_115, e80_118, e80_119, e80_120, e80_123, e80_124, e80_125, e80_128, e80_129, e80_130, e80_133, e80_134, e80_137, hg, f1']
                    · simp (disch := first | assumption | exact zrm0 | exact zrm1 _ | exact zrm2 _ _ | exact zrm3 _ _ _ | exact zrm4 _ _ _ _ | omega) only [m202, ↓k_dp, ↓k_dn, k_dp, k_dn, k_dT, k_dF, k_ip, k_in, if_true, if_false, ne_eq, not_true_eq_false, not_false_eq_true, Int.reduceAdd, zup_a, zup_e, zup_j, z32_id, k_al0, k_ic, k_v2r, k_ifeq, k_v1r, k_rz, k_v4r, k_v3r, k_goto, zb0_some, zb1_some, e202_0, e202_1, e202_2, e202_5, e202_8, e202_9, e202_12, e202_13, e202_14, e202_15, e202_18, e202_21, e202_22, e202_25, e202_26, e202_27, e202_28, e202_31, e202_34, e202_35, e202_38, e202_39, e202_40, e202_41, e202_44, e202_47, e202_48, e202_51, e202_52, e202_53, e202_55, e202_58, e202_61, e202_62, e202_65, e202_66, e202_67, e202_69, e202_72, e202_75, e202_76, e202_77, e202_78, e202_80, e202_83, e202_84, e202_85, e202_87, e202_90, e202_93, e202_94, e202_96, e202_97, e202_99, e202_102, e202_103, e202_104, e202_106, e202_109, e202_112, e202_113, e202_114, e202_117, e202_120, e202_121, e202_122, e202_123, e202_124, e202_126, e202_129, e202_132, e202_135, e202_136, e202_139, e202_140, e202_141, e202_142, e202_144, e202_147, e202_150, e202_151, e202_152, e202_155, e202_158, e202_159, e202_160, e202_161, e202_162, e202_164, e202_167, e202_170, e202_173, e202_174, e202_177, e202_178, e202_181, e202_182, e202_183, e202_186, w0, w1, w2, w3, w6, w7, w8, w9, w10, f2']
