/-! the class keeps what was before an act -/
theorem m51 (ph : Bool) (d : Nat) (a x0 : Int) (M : zM) : zEm ph (d + 1) 51 [(29, a, x0)] M = zEv ph d 51 0 [(29, a, x0), (3, 0, 0), (3, 0, 0)] [] M := rfl
theorem e51_0 (ph : Bool) (d : Nat) (L st : List zV) (M : zM) : zEv ph d 51 0 L st M = zcont ph d 51 (zstep ph (zEm ph d) 4 1 0 [0] L st M) := zEv_step rfl
theorem e51_1 (ph : Bool) (d : Nat) (L st : List zV) (M : zM) : zEv ph d 51 1 L st M = zcont ph d 51 (zstep ph (zEm ph d) 60 4 0 [29, 13] L st M) := zEv_step rfl
theorem e51_4 (ph : Bool) (d : Nat) (L st : List zV) (M : zM) : zEv ph d 51 4 L st M = zcont ph d 51 (zstep ph (zEm ph d) 4 5 0 [0] L st M) := zEv_step rfl
theorem e51_5 (ph : Bool) (d : Nat) (L st : List zV) (M : zM) : zEv ph d 51 5 L st M = zcont ph d 51 (zstep ph (zEm ph d) 62 8 0 [29, 9, 77, 14, 8] L st M) := zEv_step rfl
theorem e51_8 (ph : Bool) (d : Nat) (L st : List zV) (M : zM) : zEv ph d 51 8 L st M = zcont ph d 51 (zstep ph (zEm ph d) 84 9 0 [] L st M) := zEv_step rfl
theorem e51_9 (ph : Bool) (d : Nat) (L st : List zV) (M : zM) : zEv ph d 51 9 L st M = zcont ph d 51 (zstep ph (zEm ph d) 47 12 73 [] L st M) := zEv_step rfl
theorem e51_12 (ph : Bool) (d : Nat) (L st : List zV) (M : zM) : zEv ph d 51 12 L st M = zcont ph d 51 (zstep ph (zEm ph d) 4 13 0 [0] L st M) := zEv_step rfl
theorem e51_13 (ph : Bool) (d : Nat) (L st : List zV) (M : zM) : zEv ph d 51 13 L st M = zcont ph d 51 (zstep ph (zEm ph d) 62 16 0 [29, 9, 77, 14, 8] L st M) := zEv_step rfl
theorem e51_16 (ph : Bool) (d : Nat) (L st : List zV) (M : zM) : zEv ph d 51 16 L st M = zcont ph d 51 (zstep ph (zEm ph d) 0 17 0 [0] L st M) := zEv_step rfl
theorem e51_17 (ph : Bool) (d : Nat) (L st : List zV) (M : zM) : zEv ph d 51 17 L st M = zcont ph d 51 (zstep ph (zEm ph d) 88 18 0 [] L st M) := zEv_step rfl
theorem e51_18 (ph : Bool) (d : Nat) (L st : List zV) (M : zM) : zEv ph d 51 18 L st M = zcont ph d 51 (zstep ph (zEm ph d) 7 19 0 [1] L st M) := zEv_step rfl
theorem e51_19 (ph : Bool) (d : Nat) (L st : List zV) (M : zM) : zEv ph d 51 19 L st M = zcont ph d 51 (zstep ph (zEm ph d) 0 20 0 [1] L st M) := zEv_step rfl
theorem e51_20 (ph : Bool) (d : Nat) (L st : List zV) (M : zM) : zEv ph d 51 20 L st M = zcont ph d 51 (zstep ph (zEm ph d) 5 21 0 [2] L st M) := zEv_step rfl
theorem e51_21 (ph : Bool) (d : Nat) (L st : List zV) (M : zM) : zEv ph d 51 21 L st M = zcont ph d 51 (zstep ph (zEm ph d) 2 22 0 [2] L st M) := zEv_step rfl
theorem e51_22 (ph : Bool) (d : Nat) (L st : List zV) (M : zM) : zEv ph d 51 22 L st M = zcont ph d 51 (zstep ph (zEm ph d) 4 23 0 [0] L st M) := zEv_step rfl
theorem e51_23 (ph : Bool) (d : Nat) (L st : List zV) (M : zM) : zEv ph d 51 23 L st M = zcont ph d 51 (zstep ph (zEm ph d) 62 26 0 [29, 9, 77, 14, 8] L st M) := zEv_step rfl
theorem e51_26 (ph : Bool) (d : Nat) (L st : List zV) (M : zM) : zEv ph d 51 26 L st M = zcont ph d 51 (zstep ph (zEm ph d) 84 27 0 [] L st M) := zEv_step rfl
theorem e51_27 (ph : Bool) (d : Nat) (L st : List zV) (M : zM) : zEv ph d 51 27 L st M = zcont ph d 51 (zstep ph (zEm ph d) 49 30 50 [] L st M) := zEv_step rfl
theorem e51_30 (ph : Bool) (d : Nat) (L st : List zV) (M : zM) : zEv ph d 51 30 L st M = zcont ph d 51 (zstep ph (zEm ph d) 4 31 0 [0] L st M) := zEv_step rfl
theorem e51_31 (ph : Bool) (d : Nat) (L st : List zV) (M : zM) : zEv ph d 51 31 L st M = zcont ph d 51 (zstep ph (zEm ph d) 62 34 0 [29, 9, 77, 14, 8] L st M) := zEv_step rfl
theorem e51_34 (ph : Bool) (d : Nat) (L st : List zV) (M : zM) : zEv ph d 51 34 L st M = zcont ph d 51 (zstep ph (zEm ph d) 2 35 0 [2] L st M) := zEv_step rfl
theorem e51_35 (ph : Bool) (d : Nat) (L st : List zV) (M : zM) : zEv ph d 51 35 L st M = zcont ph d 51 (zstep ph (zEm ph d) 0 36 0 [1] L st M) := zEv_step rfl
theorem e51_36 (ph : Bool) (d : Nat) (L st : List zV) (M : zM) : zEv ph d 51 36 L st M = zcont ph d 51 (zstep ph (zEm ph d) 11 37 0 [] L st M) := zEv_step rfl
theorem e51_37 (ph : Bool) (d : Nat) (L st : List zV) (M : zM) : zEv ph d 51 37 L st M = zcont ph d 51 (zstep ph (zEm ph d) 4 38 0 [0] L st M) := zEv_step rfl
theorem e51_38 (ph : Bool) (d : Nat) (L st : List zV) (M : zM) : zEv ph d 51 38 L st M = zcont ph d 51 (zstep ph (zEm ph d) 62 41 0 [29, 9, 77, 14, 8] L st M) := zEv_step rfl
theorem e51_41 (ph : Bool) (d : Nat) (L st : List zV) (M : zM) : zEv ph d 51 41 L st M = zcont ph d 51 (zstep ph (zEm ph d) 2 42 0 [2] L st M) := zEv_step rfl
theorem e51_42 (ph : Bool) (d : Nat) (L st : List zV) (M : zM) : zEv ph d 51 42 L st M = zcont ph d 51 (zstep ph (zEm ph d) 88 43 0 [] L st M) := zEv_step rfl
theorem e51_43 (ph : Bool) (d : Nat) (L st : List zV) (M : zM) : zEv ph d 51 43 L st M = zcont ph d 51 (zstep ph (zEm ph d) 92 44 0 [] L st M) := zEv_step rfl
theorem e51_44 (ph : Bool) (d : Nat) (L st : List zV) (M : zM) : zEv ph d 51 44 L st M = zcont ph d 51 (zstep ph (zEm ph d) 8 47 0 [2, 1] L st M) := zEv_step rfl
theorem e51_47 (ph : Bool) (d : Nat) (L st : List zV) (M : zM) : zEv ph d 51 47 L st M = zcont ph d 51 (zstep ph (zEm ph d) 52 50 21 [] L st M) := zEv_step rfl
theorem e51_50 (ph : Bool) (d : Nat) (L st : List zV) (M : zM) : zEv ph d 51 50 L st M = zcont ph d 51 (zstep ph (zEm ph d) 4 51 0 [0] L st M) := zEv_step rfl
theorem e51_51 (ph : Bool) (d : Nat) (L st : List zV) (M : zM) : zEv ph d 51 51 L st M = zcont ph d 51 (zstep ph (zEm ph d) 62 54 0 [29, 9, 77, 14, 8] L st M) := zEv_step rfl
theorem e51_54 (ph : Bool) (d : Nat) (L st : List zV) (M : zM) : zEv ph d 51 54 L st M = zcont ph d 51 (zstep ph (zEm ph d) 4 55 0 [0] L st M) := zEv_step rfl
theorem e51_55 (ph : Bool) (d : Nat) (L st : List zV) (M : zM) : zEv ph d 51 55 L st M = zcont ph d 51 (zstep ph (zEm ph d) 62 58 0 [29, 9, 77, 14, 8] L st M) := zEv_step rfl
theorem e51_58 (ph : Bool) (d : Nat) (L st : List zV) (M : zM) : zEv ph d 51 58 L st M = zcont ph d 51 (zstep ph (zEm ph d) 84 59 0 [] L st M) := zEv_step rfl
theorem e51_59 (ph : Bool) (d : Nat) (L st : List zV) (M : zM) : zEv ph d 51 59 L st M = zcont ph d 51 (zstep ph (zEm ph d) 0 60 0 [1] L st M) := zEv_step rfl
theorem e51_60 (ph : Bool) (d : Nat) (L st : List zV) (M : zM) : zEv ph d 51 60 L st M = zcont ph d 51 (zstep ph (zEm ph d) 11 61 0 [] L st M) := zEv_step rfl
theorem e51_61 (ph : Bool) (d : Nat) (L st : List zV) (M : zM) : zEv ph d 51 61 L st M = zcont ph d 51 (zstep ph (zEm ph d) 4 62 0 [1] L st M) := zEv_step rfl
theorem e51_62 (ph : Bool) (d : Nat) (L st : List zV) (M : zM) : zEv ph d 51 62 L st M = zcont ph d 51 (zstep ph (zEm ph d) 92 63 0 [] L st M) := zEv_step rfl
theorem e51_63 (ph : Bool) (d : Nat) (L st : List zV) (M : zM) : zEv ph d 51 63 L st M = zcont ph d 51 (zstep ph (zEm ph d) 4 64 0 [0] L st M) := zEv_step rfl
theorem e51_64 (ph : Bool) (d : Nat) (L st : List zV) (M : zM) : zEv ph d 51 64 L st M = zcont ph d 51 (zstep ph (zEm ph d) 36 65 0 [] L st M) := zEv_step rfl
theorem e51_65 (ph : Bool) (d : Nat) (L st : List zV) (M : zM) : zEv ph d 51 65 L st M = zcont ph d 51 (zstep ph (zEm ph d) 60 68 0 [29, 13] L st M) := zEv_step rfl
theorem e51_68 (ph : Bool) (d : Nat) (L st : List zV) (M : zM) : zEv ph d 51 68 L st M = zcont ph d 51 (zstep ph (zEm ph d) 0 69 0 [1] L st M) := zEv_step rfl
theorem e51_69 (ph : Bool) (d : Nat) (L st : List zV) (M : zM) : zEv ph d 51 69 L st M = zcont ph d 51 (zstep ph (zEm ph d) 11 70 0 [] L st M) := zEv_step rfl
theorem e51_70 (ph : Bool) (d : Nat) (L st : List zV) (M : zM) : zEv ph d 51 70 L st M = zcont ph d 51 (zstep ph (zEm ph d) 65 73 0 [29, 13] L st M) := zEv_step rfl
theorem e51_73 (ph : Bool) (d : Nat) (L st : List zV) (M : zM) : zEv ph d 51 73 L st M = zcont ph d 51 (zstep ph (zEm ph d) 4 74 0 [0] L st M) := zEv_step rfl
theorem e51_74 (ph : Bool) (d : Nat) (L st : List zV) (M : zM) : zEv ph d 51 74 L st M = zcont ph d 51 (zstep ph (zEm ph d) 62 77 0 [29, 9, 77, 14, 8] L st M) := zEv_step rfl
theorem e51_77 (ph : Bool) (d : Nat) (L st : List zV) (M : zM) : zEv ph d 51 77 L st M = zcont ph d 51 (zstep ph (zEm ph d) 4 78 0 [0] L st M) := zEv_step rfl
theorem e51_78 (ph : Bool) (d : Nat) (L st : List zV) (M : zM) : zEv ph d 51 78 L st M = zcont ph d 51 (zstep ph (zEm ph d) 60 81 0 [29, 13] L st M) := zEv_step rfl
theorem e51_81 (ph : Bool) (d : Nat) (L st : List zV) (M : zM) : zEv ph d 51 81 L st M = zcont ph d 51 (zstep ph (zEm ph d) 88 82 0 [] L st M) := zEv_step rfl
theorem e51_82 (ph : Bool) (d : Nat) (L st : List zV) (M : zM) : zEv ph d 51 82 L st M = zcont ph d 51 (zstep ph (zEm ph d) 4 83 0 [0] L st M) := zEv_step rfl
theorem e51_83 (ph : Bool) (d : Nat) (L st : List zV) (M : zM) : zEv ph d 51 83 L st M = zcont ph d 51 (zstep ph (zEm ph d) 62 86 0 [29, 7, 59, 26, 0] L st M) := zEv_step rfl
theorem e51_86 (ph : Bool) (d : Nat) (L st : List zV) (M : zM) : zEv ph d 51 86 L st M = zcont ph d 51 (zstep ph (zEm ph d) 70 89 113 [2, 0, 26] L st M) := zEv_step rfl
theorem e51_89 (ph : Bool) (d : Nat) (L st : List zV) (M : zM) : zEv ph d 51 89 L st M = zcont ph d 51 (zstep ph (zEm ph d) 4 90 0 [0] L st M) := zEv_step rfl
theorem e51_90 (ph : Bool) (d : Nat) (L st : List zV) (M : zM) : zEv ph d 51 90 L st M = zcont ph d 51 (zstep ph (zEm ph d) 36 91 0 [] L st M) := zEv_step rfl
theorem e51_91 (ph : Bool) (d : Nat) (L st : List zV) (M : zM) : zEv ph d 51 91 L st M = zcont ph d 51 (zstep ph (zEm ph d) 60 94 0 [29, 13] L st M) := zEv_step rfl
theorem e51_94 (ph : Bool) (d : Nat) (L st : List zV) (M : zM) : zEv ph d 51 94 L st M = zcont ph d 51 (zstep ph (zEm ph d) 0 95 0 [1] L st M) := zEv_step rfl
theorem e51_95 (ph : Bool) (d : Nat) (L st : List zV) (M : zM) : zEv ph d 51 95 L st M = zcont ph d 51 (zstep ph (zEm ph d) 10 96 0 [] L st M) := zEv_step rfl
theorem e51_96 (ph : Bool) (d : Nat) (L st : List zV) (M : zM) : zEv ph d 51 96 L st M = zcont ph d 51 (zstep ph (zEm ph d) 65 99 0 [29, 13] L st M) := zEv_step rfl
theorem e51_99 (ph : Bool) (d : Nat) (L st : List zV) (M : zM) : zEv ph d 51 99 L st M = zcont ph d 51 (zstep ph (zEm ph d) 83 100 0 [] L st M) := zEv_step rfl
theorem m50 (ph : Bool) (d : Nat) (a x0 p0 y0 : Int) (M : zM) : zEm ph (d + 1) 50 [(29, a, x0), (0, p0, y0)] M = zEv ph d 50 0 [(29, a, x0), (0, p0, y0)] [] M := rfl
theorem e50_0 (ph : Bool) (d : Nat) (L st : List zV) (M : zM) : zEv ph d 50 0 L st M = zcont ph d 50 (zstep ph (zEm ph d) 2 1 0 [1] L st M) := zEv_step rfl
theorem e50_1 (ph : Bool) (d : Nat) (L st : List zV) (M : zM) : zEv ph d 50 1 L st M = zcont ph d 50 (zstep ph (zEm ph d) 41 4 8 [] L st M) := zEv_step rfl
theorem e50_4 (ph : Bool) (d : Nat) (L st : List zV) (M : zM) : zEv ph d 50 4 L st M = zcont ph d 50 (zstep ph (zEm ph d) 4 5 0 [0] L st M) := zEv_step rfl
theorem e50_5 (ph : Bool) (d : Nat) (L st : List zV) (M : zM) : zEv ph d 50 5 L st M = zcont ph d 50 (zstep ph (zEm ph d) 70 8 51 [1, 0, 29] L st M) := zEv_step rfl
theorem e50_8 (ph : Bool) (d : Nat) (L st : List zV) (M : zM) : zEv ph d 50 8 L st M = zcont ph d 50 (zstep ph (zEm ph d) 2 9 0 [1] L st M) := zEv_step rfl
theorem e50_9 (ph : Bool) (d : Nat) (L st : List zV) (M : zM) : zEv ph d 50 9 L st M = zcont ph d 50 (zstep ph (zEm ph d) 80 10 0 [] L st M) := zEv_step rfl
theorem okP_sep {M : zM} (h : okP M) {i j : Int} (i0 : 0 ≤ i) (i1 : i < 8) (j0 : 0 ≤ j) (j1 : j < 8) (hij : i ≠ j) : M 77 i + 9 ≤ M 77 j ∨ M 77 j + 9 ≤ M 77 i := by
  obtain ⟨ha, hb⟩ := h
  have h1 := ha i i0 i1
  have h2 := ha j j0 j1
  have h3 : M 77 i ≠ M 77 j := by
    by_cases c : i < j
    · exact hb i j i0 c j1
    · exact fun z => hb j i j0 (by omega) i1 z.symm
  omega
theorem c_keepBefore (d : Nat) (x0 : Int) (M : zM) (n0 : 0 ≤ M 0 13) (n1 : M 0 13 ≤ 8) (hp : okP M) : ∃ M', zEm true (d + 2) 51 [(29, 0, x0)] M = some ((98, 0, 0), M') ∧ zKept M M' := by
  have hpos : ∀ i, 0 ≤ i → i < 8 → 0 < M 77 i := fun i h0 h1 => by have := hp.1 i h0 h1; omega
  by_cases c : M 0 13 = 8
  · have hl := zfor (ph := true) (d := d + 1) (j := 51) (pc := 21) (fun k U => zup U 77 (0 + k) (U 77 (1 + k))) (fun k U => 0 ≤ k ∧ ∀ i, 0 ≤ i → i < 8 → 0 < U 77 i) (fun k _ => [(29, 0, x0), (26, M 77 0, 0), (0, k + 1, 0)]) (fun U => U) 7
      (fun k b hk hP => ⟨by
        obtain ⟨h0, h1⟩ := hP
        have h2 := h1 (k + 1) (by omega) (by omega)
        have e1 : k + 1 - 1 = k := by omega
        have e2 : 1 + k = k + 1 := by omega
        rw [e51_21]
        simp (disch := first | assumption | exact zrm0 | exact zrm1 _ | exact zrm2 _ _ | exact zrm3 _ _ _ | exact zrm4 _ _ _ _ | omega) only [m51, ↓k_dp, ↓k_dn, k_dp, k_dn, k_dT, k_dF, k_ip, k_in, if_true, if_false, ne_eq, not_true_eq_false, not_false_eq_true, Int.reduceAdd, zup_a, zup_e, zup_j, z32_id, k_al0, k_gI, k_gR, k_len, k_icne, k_ic, k_aldS, k_aldI, k_aldW, k_as1, k_is2, k_il2, k_icge, k_isub, k_ast, k_inc2, k_goto, k_al1, k_dup, k_pI, k_v2, k_iadd, k_rv, zb0_some, zb1_some, e51_0, e51_1, e51_4, e51_5, e51_8, e51_9, e51_12, e51_13, e51_16, e51_17, e51_18, e51_19, e51_20, e51_22, e51_23, e51_26, e51_27, e51_30, e51_31, e51_34, e51_35, e51_36, e51_37, e51_38, e51_41, e51_42, e51_43, e51_44, e51_47, e51_50, e51_51, e51_54, e51_55, e51_58, e51_59, e51_60, e51_61, e51_62, e51_63, e51_64, e51_65, e51_68, e51_69, e51_70, e51_73, e51_74, e51_77, e51_78, e51_81, e51_82, e51_83, e51_86, e51_89, e51_90, e51_91, e51_94, e51_95, e51_96, e51_99, e1, e2, Int.zero_add], by omega, fun i i0 i1 => by
        obtain ⟨h0, h1⟩ := hP
        unfold zup
        split
        · exact h1 _ (by omega) (by omega)
        · exact h1 _ i0 i1⟩) 7 0 M (by omega) ⟨Int.le_refl _, hpos⟩
    rw [zit_cpy (by omega) (Or.inr (by omega))] at hl
    have h00 := hp.1 0 (by omega) (by omega)
    obtain ⟨p, hpp⟩ : ∃ p, p = M 77 0 := ⟨_, rfl⟩
    obtain ⟨U, hU⟩ : ∃ U, U = zup (zup (zcpy M 77 1 77 0 7) 77 7 p) 0 13 7 := ⟨_, rfl⟩
    have hU7 : U 77 7 = p := by rw [hU, zup_a (by omega), zup_e (by omega)]
    have hU13 : U 0 13 = 7 := by rw [hU, zup_e (by omega)]
    have hc := cpS_o (M := U) (a := p) (b := 59) (x := 0) (y := 13) (Or.inl (by omega))
    refine ⟨zup (cpS U p 59) 0 13 8, ?_, ?_⟩
    · simp (disch := first | assumption | exact zrm0 | exact zrm1 _ | exact zrm2 _ _ | exact zrm3 _ _ _ | exact zrm4 _ _ _ _ | omega) only [m51, ↓k_dp, ↓k_dn, k_dp, k_dn, k_dT, k_dF, k_ip, k_in, if_true, if_false, ne_eq, not_true_eq_false, not_false_eq_true, Int.reduceAdd, zup_a, zup_e, zup_j, z32_id, k_al0, k_gI, k_gR, k_len, k_icne, k_ic, k_aldS, k_aldI, k_aldW, k_as1, k_is2, k_il2, k_icge, k_isub, k_ast, k_inc2, k_goto, k_al1, k_dup, k_pI, k_v2, k_iadd, k_rv, zb0_some, zb1_some, e51_0, e51_1, e51_4, e51_5, e51_8, e51_9, e51_12, e51_13, e51_16, e51_17, e51_18, e51_19, e51_20, e51_22, e51_23, e51_26, e51_27, e51_30, e51_31, e51_34, e51_35, e51_36, e51_37, e51_38, e51_41, e51_42, e51_43, e51_44, e51_47, e51_50, e51_51, e51_54, e51_55, e51_58, e51_59, e51_60, e51_61, e51_62, e51_63, e51_64, e51_65, e51_68, e51_69, e51_70, e51_73, e51_74, e51_77, e51_78, e51_81, e51_82, e51_83, e51_86, e51_89, e51_90, e51_91, e51_94, e51_95, e51_96, e51_99, c]
      have h1 := hl.1
      rw [Int.zero_add] at h1
      rw [h1, ← hpp]
      have e : zcpy M 77 1 77 0 (7 : Nat) 0 13 = 8 := by rw [zcpy_o (by omega)]; exact c
      have hU' : zup (zup (zcpy M 77 1 77 0 (7 : Nat)) 77 7 p) 0 13 7 = U := hU.symm
      have hp0 : 0 < p := by omega
      simp (disch := first | assumption | exact zrm0 | exact zrm1 _ | exact zrm2 _ _ | exact zrm3 _ _ _ | exact zrm4 _ _ _ _ | omega) only [m51, ↓k_dp, ↓k_dn, k_dp, k_dn, k_dT, k_dF, k_ip, k_in, if_true, if_false, ne_eq, not_true_eq_false, not_false_eq_true, Int.reduceAdd, zup_a, zup_e, zup_j, z32_id, k_al0, k_gI, k_gR, k_len, k_icne, k_ic, k_aldS, k_aldI, k_aldW, k_as1, k_is2, k_il2, k_icge, k_isub, k_ast, k_inc2, k_goto, k_al1, k_dup, k_pI, k_v2, k_iadd, k_rv, zb0_some, zb1_some, e51_0, e51_1, e51_4, e51_5, e51_8, e51_9, e51_12, e51_13, e51_16, e51_17, e51_18, e51_19, e51_20, e51_21, e51_22, e51_23, e51_26, e51_27, e51_30, e51_31, e51_34, e51_35, e51_36, e51_37, e51_38, e51_41, e51_42, e51_43, e51_44, e51_47, e51_50, e51_51, e51_54, e51_55, e51_58, e51_59, e51_60, e51_61, e51_62, e51_63, e51_64, e51_65, e51_68, e51_69, e51_70, e51_73, e51_74, e51_77, e51_78, e51_81, e51_82, e51_83, e51_86, e51_89, e51_90, e51_91, e51_94, e51_95, e51_96, e51_99, e, Int.reduceSub, hU', hU7, hU13, s_copyS, hc]
    · have hF : ∀ x y, x < 81 → ¬ (x = 77) → ¬ (x = 0 ∧ y = 13) → U x y = M x y := by
        intro x y h1 h2 h3
        rw [hU]
        unfold zup
        rw [if_neg (fun z => h3 ⟨z.1, z.2.1⟩), if_neg (fun z => h2 z.1), zcpy_o h2]
      have hF2 : ∀ x y, 81 ≤ x → U x y = M x y := by
        intro x y h1
        rw [hU, zup_a (by omega), zup_a (by omega), zcpy_o (by omega)]
      have h77 : ∀ i, 0 ≤ i → i < 8 → zup (cpS U p 59) 0 13 8 77 i = if i = 7 then p else M 77 (i + 1) := by
        intro i i0 i1
        rw [zup_a (by omega), cpS_o (Or.inl (by omega)), hU, zup_a (by omega)]
        by_cases c7 : i = 7
        · rw [if_pos c7, c7, zup_e (by omega)]
        · rw [if_neg c7, zup_j c7, zcpy_i (by omega) (by omega) (by omega)]
          congr 1
          omega
      have e13 : zup (cpS U p 59) 0 13 8 0 13 = 8 := zup_e (by omega)
      refine ⟨fun x y h => ?_, ⟨fun i i0 i1 => ?_, fun i j i0 hij j1 => ?_⟩, by rw [e13, if_pos c], ?_, fun i i0 i1 => ?_⟩
      · have h1 : ¬ (81 ≤ x ∧ x ≤ 152) := fun z => h (Or.inl z)
        have h2 : x ≠ 77 := fun z => h (Or.inr (Or.inl z))
        have h3 : ¬ (x = 0 ∧ y = 13) := fun z => h (Or.inr (Or.inr z))
        have : zup (cpS U p 59) 0 13 8 x y = cpS U p 59 x y := by unfold zup; rw [if_neg (fun z => h3 ⟨z.1, z.2.1⟩)]
        rw [this, cpS_o (by omega)]
        by_cases c8 : x < 81
        · exact hF x y c8 h2 h3
        · exact hF2 x y (by omega)
      · rw [h77 i i0 i1]
        split
        · rw [hpp]; exact h00
        · exact hp.1 _ (by omega) (by omega)
      · rw [h77 i i0 (by omega), h77 j (by omega) j1, if_neg (by omega)]
        split
        · rw [hpp]
          exact fun z => hp.2 0 (i + 1) (by omega) (by omega) (by omega) z.symm
        · exact hp.2 _ _ (by omega) (by omega) (by omega)
      · rw [e13, h77 _ (by omega) (by omega), if_pos (by omega), zvS_out (by omega), zvS_cp (by omega) (by omega)]
        exact zvS_eq (fun x y h1 h2 => hF x y (by omega) (by omega) (by omega))
      · rw [e13] at i1
        have h9 := okP_sep hp (i := 0) (j := i + 1) (by omega) (by omega) (by omega) (by omega) (by omega)
        have h10 := hp.1 (i + 1) (by omega) (by omega)
        rw [h77 _ i0 (by omega), if_neg (by omega), if_pos c, zvS_out (by omega), zvS_cpo (by omega)]
        exact zvS_eq (fun x y h1 h2 => hF2 x y (by omega))
  · have h00 := hp.1 (M 0 13) (by omega) (by omega)
    obtain ⟨p, hpp⟩ : ∃ p, p = M 77 (M 0 13) := ⟨_, rfl⟩
    rw [← hpp] at h00
    have hc := cpS_o (M := M) (a := p) (b := 59) (x := 0) (y := 13) (Or.inl (by omega))
    have hp0 : 0 < p := by omega
    refine ⟨zup (cpS M p 59) 0 13 (M 0 13 + 1), ?_, ?_⟩
    · simp (disch := first | assumption | exact zrm0 | exact zrm1 _ | exact zrm2 _ _ | exact zrm3 _ _ _ | exact zrm4 _ _ _ _ | omega) only [m51, ↓k_dp, ↓k_dn, k_dp, k_dn, k_dT, k_dF, k_ip, k_in, if_true, if_false, ne_eq, not_true_eq_false, not_false_eq_true, Int.reduceAdd, zup_a, zup_e, zup_j, z32_id, k_al0, k_gI, k_gR, k_len, k_icne, k_ic, k_aldS, k_aldI, k_aldW, k_as1, k_is2, k_il2, k_icge, k_isub, k_ast, k_inc2, k_goto, k_al1, k_dup, k_pI, k_v2, k_iadd, k_rv, zb0_some, zb1_some, e51_0, e51_1, e51_4, e51_5, e51_8, e51_9, e51_12, e51_13, e51_16, e51_17, e51_18, e51_19, e51_20, e51_22, e51_23, e51_26, e51_27, e51_30, e51_31, e51_34, e51_35, e51_36, e51_37, e51_38, e51_41, e51_42, e51_43, e51_44, e51_47, e51_50, e51_51, e51_54, e51_55, e51_58, e51_59, e51_60, e51_61, e51_62, e51_63, e51_64, e51_65, e51_68, e51_69, e51_70, e51_73, e51_74, e51_77, e51_78, e51_81, e51_82, e51_83, e51_86, e51_89, e51_90, e51_91, e51_94, e51_95, e51_96, e51_99, hpp.symm, s_copyS, hc]
    · have h77 : ∀ i, zup (cpS M p 59) 0 13 (M 0 13 + 1) 77 i = M 77 i := fun i => by rw [zup_a (by omega), cpS_o (Or.inl (by omega))]
      have e13 : zup (cpS M p 59) 0 13 (M 0 13 + 1) 0 13 = M 0 13 + 1 := zup_e (by omega)
      refine ⟨fun x y h => ?_, ⟨fun i i0 i1 => ?_, fun i j i0 hij j1 => ?_⟩, by rw [e13, if_neg c], ?_, fun i i0 i1 => ?_⟩
      · have h1 : ¬ (81 ≤ x ∧ x ≤ 152) := fun z => h (Or.inl z)
        have h3 : ¬ (x = 0 ∧ y = 13) := fun z => h (Or.inr (Or.inr z))
        have : zup (cpS M p 59) 0 13 (M 0 13 + 1) x y = cpS M p 59 x y := by unfold zup; rw [if_neg (fun z => h3 ⟨z.1, z.2.1⟩)]
        rw [this, cpS_o (by omega)]
      · rw [h77]; exact hp.1 i i0 i1
      · rw [h77, h77]; exact hp.2 i j i0 hij j1
      · rw [e13, h77, show M 0 13 + 1 - 1 = M 0 13 by omega, ← hpp, zvS_out (by omega), zvS_cp (by omega) (by omega)]
      · rw [e13] at i1
        have h9 := okP_sep hp (i := M 0 13) (j := i) (by omega) (by omega) (by omega) (by omega) (by omega)
        have h10 := hp.1 i (by omega) (by omega)
        rw [← hpp] at h9
        rw [h77, if_neg c, zvS_out (by omega), zvS_cpo (by omega)]
theorem c_keepIfDone (d : Nat) (x0 w y : Int) (M : zM) (n0 : 0 ≤ M 0 13) (n1 : M 0 13 ≤ 8) (hp : okP M) : ∃ M', zEm true (d + 3) 50 [(29, 0, x0), (0, w, y)] M = some ((0, w, 0), M') ∧ (w ≠ 0 → M' = M) ∧ (w = 0 → zKept M M') := by
  by_cases c : w = 0
  · obtain ⟨M', h1, h2⟩ := c_keepBefore d x0 M n0 n1 hp
    exact ⟨M', by simp (disch := first | assumption | exact zrm0 | exact zrm1 _ | exact zrm2 _ _ | exact zrm3 _ _ _ | exact zrm4 _ _ _ _ | omega) only [m50, ↓k_dp, ↓k_dn, k_dp, k_dn, k_dT, k_dF, k_ip, k_in, if_true, if_false, ne_eq, not_true_eq_false, not_false_eq_true, Int.reduceAdd, zup_a, zup_e, zup_j, z32_id, k_il1, k_ifne, k_al0, k_v1, k_ri, zb0_some, zb1_some, e50_0, e50_1, e50_4, e50_5, e50_8, e50_9, h1], fun z => absurd c z, fun _ => h2⟩
  · exact ⟨M, by simp (disch := first | assumption | exact zrm0 | exact zrm1 _ | exact zrm2 _ _ | exact zrm3 _ _ _ | exact zrm4 _ _ _ _ | omega) only [m50, ↓k_dp, ↓k_dn, k_dp, k_dn, k_dT, k_dF, k_ip, k_in, if_true, if_false, ne_eq, not_true_eq_false, not_false_eq_true, Int.reduceAdd, zup_a, zup_e, zup_j, z32_id, k_il1, k_ifne, k_al0, k_v1, k_ri, zb0_some, zb1_some, e50_0, e50_1, e50_4, e50_5, e50_8, e50_9], fun _ => rfl, fun z => absurd z c⟩
