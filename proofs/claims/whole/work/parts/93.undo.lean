/-! an act undone -/
theorem m19 (ph : Bool) (d : Nat) (a x0 : Int) (M : zM) : zEm ph (d + 1) 19 [(29, a, x0)] M = zEv ph d 19 0 [(29, a, x0)] [] M := rfl
theorem e19_0 (ph : Bool) (d : Nat) (L st : List zV) (M : zM) : zEv ph d 19 0 L st M = zcont ph d 19 (zstep ph (zEm ph d) 4 1 0 [0] L st M) := zEv_step rfl
theorem e19_1 (ph : Bool) (d : Nat) (L st : List zV) (M : zM) : zEv ph d 19 1 L st M = zcont ph d 19 (zstep ph (zEm ph d) 60 4 0 [29, 13] L st M) := zEv_step rfl
theorem e19_4 (ph : Bool) (d : Nat) (L st : List zV) (M : zM) : zEv ph d 19 4 L st M = zcont ph d 19 (zstep ph (zEm ph d) 0 5 0 [1] L st M) := zEv_step rfl
theorem e19_5 (ph : Bool) (d : Nat) (L st : List zV) (M : zM) : zEv ph d 19 5 L st M = zcont ph d 19 (zstep ph (zEm ph d) 48 8 20 [] L st M) := zEv_step rfl
theorem e19_8 (ph : Bool) (d : Nat) (L st : List zV) (M : zM) : zEv ph d 19 8 L st M = zcont ph d 19 (zstep ph (zEm ph d) 4 9 0 [0] L st M) := zEv_step rfl
theorem e19_9 (ph : Bool) (d : Nat) (L st : List zV) (M : zM) : zEv ph d 19 9 L st M = zcont ph d 19 (zstep ph (zEm ph d) 60 12 0 [29, 13] L st M) := zEv_step rfl
theorem e19_12 (ph : Bool) (d : Nat) (L st : List zV) (M : zM) : zEv ph d 19 12 L st M = zcont ph d 19 (zstep ph (zEm ph d) 4 13 0 [0] L st M) := zEv_step rfl
theorem e19_13 (ph : Bool) (d : Nat) (L st : List zV) (M : zM) : zEv ph d 19 13 L st M = zcont ph d 19 (zstep ph (zEm ph d) 62 16 0 [29, 9, 77, 14, 8] L st M) := zEv_step rfl
theorem e19_16 (ph : Bool) (d : Nat) (L st : List zV) (M : zM) : zEv ph d 19 16 L st M = zcont ph d 19 (zstep ph (zEm ph d) 84 17 0 [] L st M) := zEv_step rfl
theorem e19_17 (ph : Bool) (d : Nat) (L st : List zV) (M : zM) : zEv ph d 19 17 L st M = zcont ph d 19 (zstep ph (zEm ph d) 51 20 22 [] L st M) := zEv_step rfl
theorem e19_20 (ph : Bool) (d : Nat) (L st : List zV) (M : zM) : zEv ph d 19 20 L st M = zcont ph d 19 (zstep ph (zEm ph d) 0 21 0 [-1] L st M) := zEv_step rfl
theorem e19_21 (ph : Bool) (d : Nat) (L st : List zV) (M : zM) : zEv ph d 19 21 L st M = zcont ph d 19 (zstep ph (zEm ph d) 80 22 0 [] L st M) := zEv_step rfl
theorem e19_22 (ph : Bool) (d : Nat) (L st : List zV) (M : zM) : zEv ph d 19 22 L st M = zcont ph d 19 (zstep ph (zEm ph d) 4 23 0 [0] L st M) := zEv_step rfl
theorem e19_23 (ph : Bool) (d : Nat) (L st : List zV) (M : zM) : zEv ph d 19 23 L st M = zcont ph d 19 (zstep ph (zEm ph d) 36 24 0 [] L st M) := zEv_step rfl
theorem e19_24 (ph : Bool) (d : Nat) (L st : List zV) (M : zM) : zEv ph d 19 24 L st M = zcont ph d 19 (zstep ph (zEm ph d) 60 27 0 [29, 13] L st M) := zEv_step rfl
theorem e19_27 (ph : Bool) (d : Nat) (L st : List zV) (M : zM) : zEv ph d 19 27 L st M = zcont ph d 19 (zstep ph (zEm ph d) 0 28 0 [1] L st M) := zEv_step rfl
theorem e19_28 (ph : Bool) (d : Nat) (L st : List zV) (M : zM) : zEv ph d 19 28 L st M = zcont ph d 19 (zstep ph (zEm ph d) 11 29 0 [] L st M) := zEv_step rfl
theorem e19_29 (ph : Bool) (d : Nat) (L st : List zV) (M : zM) : zEv ph d 19 29 L st M = zcont ph d 19 (zstep ph (zEm ph d) 65 32 0 [29, 13] L st M) := zEv_step rfl
theorem e19_32 (ph : Bool) (d : Nat) (L st : List zV) (M : zM) : zEv ph d 19 32 L st M = zcont ph d 19 (zstep ph (zEm ph d) 4 33 0 [0] L st M) := zEv_step rfl
theorem e19_33 (ph : Bool) (d : Nat) (L st : List zV) (M : zM) : zEv ph d 19 33 L st M = zcont ph d 19 (zstep ph (zEm ph d) 62 36 0 [29, 3, 37, 26, 0] L st M) := zEv_step rfl
theorem e19_36 (ph : Bool) (d : Nat) (L st : List zV) (M : zM) : zEv ph d 19 36 L st M = zcont ph d 19 (zstep ph (zEm ph d) 4 37 0 [0] L st M) := zEv_step rfl
theorem e19_37 (ph : Bool) (d : Nat) (L st : List zV) (M : zM) : zEv ph d 19 37 L st M = zcont ph d 19 (zstep ph (zEm ph d) 62 40 0 [29, 9, 77, 14, 8] L st M) := zEv_step rfl
theorem e19_40 (ph : Bool) (d : Nat) (L st : List zV) (M : zM) : zEv ph d 19 40 L st M = zcont ph d 19 (zstep ph (zEm ph d) 4 41 0 [0] L st M) := zEv_step rfl
theorem e19_41 (ph : Bool) (d : Nat) (L st : List zV) (M : zM) : zEv ph d 19 41 L st M = zcont ph d 19 (zstep ph (zEm ph d) 60 44 0 [29, 13] L st M) := zEv_step rfl
theorem e19_44 (ph : Bool) (d : Nat) (L st : List zV) (M : zM) : zEv ph d 19 44 L st M = zcont ph d 19 (zstep ph (zEm ph d) 88 45 0 [] L st M) := zEv_step rfl
theorem e19_45 (ph : Bool) (d : Nat) (L st : List zV) (M : zM) : zEv ph d 19 45 L st M = zcont ph d 19 (zstep ph (zEm ph d) 70 48 113 [2, 0, 26] L st M) := zEv_step rfl
theorem e19_48 (ph : Bool) (d : Nat) (L st : List zV) (M : zM) : zEv ph d 19 48 L st M = zcont ph d 19 (zstep ph (zEm ph d) 4 49 0 [0] L st M) := zEv_step rfl
theorem e19_49 (ph : Bool) (d : Nat) (L st : List zV) (M : zM) : zEv ph d 19 49 L st M = zcont ph d 19 (zstep ph (zEm ph d) 60 52 0 [29, 13] L st M) := zEv_step rfl
theorem e19_52 (ph : Bool) (d : Nat) (L st : List zV) (M : zM) : zEv ph d 19 52 L st M = zcont ph d 19 (zstep ph (zEm ph d) 80 53 0 [] L st M) := zEv_step rfl
theorem m239 (ph : Bool) (d : Nat) (a x0 : Int) (M : zM) : zEm ph (d + 1) 239 [(30, a, x0)] M = zEv ph d 239 0 [(30, a, x0), (3, 0, 0)] [] M := rfl
theorem e239_0 (ph : Bool) (d : Nat) (L st : List zV) (M : zM) : zEv ph d 239 0 L st M = zcont ph d 239 (zstep ph (zEm ph d) 4 1 0 [0] L st M) := zEv_step rfl
theorem e239_1 (ph : Bool) (d : Nat) (L st : List zV) (M : zM) : zEv ph d 239 1 L st M = zcont ph d 239 (zstep ph (zEm ph d) 0 2 0 [0] L st M) := zEv_step rfl
theorem e239_2 (ph : Bool) (d : Nat) (L st : List zV) (M : zM) : zEv ph d 239 2 L st M = zcont ph d 239 (zstep ph (zEm ph d) 65 5 0 [30, 0] L st M) := zEv_step rfl
theorem e239_5 (ph : Bool) (d : Nat) (L st : List zV) (M : zM) : zEv ph d 239 5 L st M = zcont ph d 239 (zstep ph (zEm ph d) 4 6 0 [0] L st M) := zEv_step rfl
theorem e239_6 (ph : Bool) (d : Nat) (L st : List zV) (M : zM) : zEv ph d 239 6 L st M = zcont ph d 239 (zstep ph (zEm ph d) 60 9 0 [30, 24] L st M) := zEv_step rfl
theorem e239_9 (ph : Bool) (d : Nat) (L st : List zV) (M : zM) : zEv ph d 239 9 L st M = zcont ph d 239 (zstep ph (zEm ph d) 41 12 14 [] L st M) := zEv_step rfl
theorem e239_12 (ph : Bool) (d : Nat) (L st : List zV) (M : zM) : zEv ph d 239 12 L st M = zcont ph d 239 (zstep ph (zEm ph d) 0 13 0 [-1] L st M) := zEv_step rfl
theorem e239_13 (ph : Bool) (d : Nat) (L st : List zV) (M : zM) : zEv ph d 239 13 L st M = zcont ph d 239 (zstep ph (zEm ph d) 80 14 0 [] L st M) := zEv_step rfl
theorem e239_14 (ph : Bool) (d : Nat) (L st : List zV) (M : zM) : zEv ph d 239 14 L st M = zcont ph d 239 (zstep ph (zEm ph d) 4 15 0 [0] L st M) := zEv_step rfl
theorem e239_15 (ph : Bool) (d : Nat) (L st : List zV) (M : zM) : zEv ph d 239 15 L st M = zcont ph d 239 (zstep ph (zEm ph d) 36 16 0 [] L st M) := zEv_step rfl
theorem e239_16 (ph : Bool) (d : Nat) (L st : List zV) (M : zM) : zEv ph d 239 16 L st M = zcont ph d 239 (zstep ph (zEm ph d) 60 19 0 [30, 24] L st M) := zEv_step rfl
theorem e239_19 (ph : Bool) (d : Nat) (L st : List zV) (M : zM) : zEv ph d 239 19 L st M = zcont ph d 239 (zstep ph (zEm ph d) 0 20 0 [1] L st M) := zEv_step rfl
theorem e239_20 (ph : Bool) (d : Nat) (L st : List zV) (M : zM) : zEv ph d 239 20 L st M = zcont ph d 239 (zstep ph (zEm ph d) 11 21 0 [] L st M) := zEv_step rfl
theorem e239_21 (ph : Bool) (d : Nat) (L st : List zV) (M : zM) : zEv ph d 239 21 L st M = zcont ph d 239 (zstep ph (zEm ph d) 65 24 0 [30, 24] L st M) := zEv_step rfl
theorem e239_24 (ph : Bool) (d : Nat) (L st : List zV) (M : zM) : zEv ph d 239 24 L st M = zcont ph d 239 (zstep ph (zEm ph d) 0 25 0 [0] L st M) := zEv_step rfl
theorem e239_25 (ph : Bool) (d : Nat) (L st : List zV) (M : zM) : zEv ph d 239 25 L st M = zcont ph d 239 (zstep ph (zEm ph d) 5 26 0 [1] L st M) := zEv_step rfl
theorem e239_26 (ph : Bool) (d : Nat) (L st : List zV) (M : zM) : zEv ph d 239 26 L st M = zcont ph d 239 (zstep ph (zEm ph d) 2 27 0 [1] L st M) := zEv_step rfl
theorem e239_27 (ph : Bool) (d : Nat) (L st : List zV) (M : zM) : zEv ph d 239 27 L st M = zcont ph d 239 (zstep ph (zEm ph d) 0 29 0 [51] L st M) := zEv_step rfl
theorem e239_29 (ph : Bool) (d : Nat) (L st : List zV) (M : zM) : zEv ph d 239 29 L st M = zcont ph d 239 (zstep ph (zEm ph d) 49 32 61 [] L st M) := zEv_step rfl
theorem e239_32 (ph : Bool) (d : Nat) (L st : List zV) (M : zM) : zEv ph d 239 32 L st M = zcont ph d 239 (zstep ph (zEm ph d) 4 33 0 [0] L st M) := zEv_step rfl
theorem e239_33 (ph : Bool) (d : Nat) (L st : List zV) (M : zM) : zEv ph d 239 33 L st M = zcont ph d 239 (zstep ph (zEm ph d) 62 36 0 [30, 14, 2, 10, 368] L st M) := zEv_step rfl
theorem e239_36 (ph : Bool) (d : Nat) (L st : List zV) (M : zM) : zEv ph d 239 36 L st M = zcont ph d 239 (zstep ph (zEm ph d) 0 38 0 [75] L st M) := zEv_step rfl
theorem e239_38 (ph : Bool) (d : Nat) (L st : List zV) (M : zM) : zEv ph d 239 38 L st M = zcont ph d 239 (zstep ph (zEm ph d) 2 39 0 [1] L st M) := zEv_step rfl
theorem e239_39 (ph : Bool) (d : Nat) (L st : List zV) (M : zM) : zEv ph d 239 39 L st M = zcont ph d 239 (zstep ph (zEm ph d) 10 40 0 [] L st M) := zEv_step rfl
theorem e239_40 (ph : Bool) (d : Nat) (L st : List zV) (M : zM) : zEv ph d 239 40 L st M = zcont ph d 239 (zstep ph (zEm ph d) 4 41 0 [0] L st M) := zEv_step rfl
theorem e239_41 (ph : Bool) (d : Nat) (L st : List zV) (M : zM) : zEv ph d 239 41 L st M = zcont ph d 239 (zstep ph (zEm ph d) 62 44 0 [30, 17, 5, 10, 408] L st M) := zEv_step rfl
theorem e239_44 (ph : Bool) (d : Nat) (L st : List zV) (M : zM) : zEv ph d 239 44 L st M = zcont ph d 239 (zstep ph (zEm ph d) 0 46 0 [51] L st M) := zEv_step rfl
theorem e239_46 (ph : Bool) (d : Nat) (L st : List zV) (M : zM) : zEv ph d 239 46 L st M = zcont ph d 239 (zstep ph (zEm ph d) 4 47 0 [0] L st M) := zEv_step rfl
theorem e239_47 (ph : Bool) (d : Nat) (L st : List zV) (M : zM) : zEv ph d 239 47 L st M = zcont ph d 239 (zstep ph (zEm ph d) 60 50 0 [30, 24] L st M) := zEv_step rfl
theorem e239_50 (ph : Bool) (d : Nat) (L st : List zV) (M : zM) : zEv ph d 239 50 L st M = zcont ph d 239 (zstep ph (zEm ph d) 12 51 0 [] L st M) := zEv_step rfl
theorem e239_51 (ph : Bool) (d : Nat) (L st : List zV) (M : zM) : zEv ph d 239 51 L st M = zcont ph d 239 (zstep ph (zEm ph d) 2 52 0 [1] L st M) := zEv_step rfl
theorem e239_52 (ph : Bool) (d : Nat) (L st : List zV) (M : zM) : zEv ph d 239 52 L st M = zcont ph d 239 (zstep ph (zEm ph d) 10 53 0 [] L st M) := zEv_step rfl
theorem e239_53 (ph : Bool) (d : Nat) (L st : List zV) (M : zM) : zEv ph d 239 53 L st M = zcont ph d 239 (zstep ph (zEm ph d) 85 54 0 [] L st M) := zEv_step rfl
theorem e239_54 (ph : Bool) (d : Nat) (L st : List zV) (M : zM) : zEv ph d 239 54 L st M = zcont ph d 239 (zstep ph (zEm ph d) 89 55 0 [] L st M) := zEv_step rfl
theorem e239_55 (ph : Bool) (d : Nat) (L st : List zV) (M : zM) : zEv ph d 239 55 L st M = zcont ph d 239 (zstep ph (zEm ph d) 8 58 0 [1, 1] L st M) := zEv_step rfl
theorem e239_58 (ph : Bool) (d : Nat) (L st : List zV) (M : zM) : zEv ph d 239 58 L st M = zcont ph d 239 (zstep ph (zEm ph d) 52 61 26 [] L st M) := zEv_step rfl
theorem e239_61 (ph : Bool) (d : Nat) (L st : List zV) (M : zM) : zEv ph d 239 61 L st M = zcont ph d 239 (zstep ph (zEm ph d) 4 62 0 [0] L st M) := zEv_step rfl
theorem e239_62 (ph : Bool) (d : Nat) (L st : List zV) (M : zM) : zEv ph d 239 62 L st M = zcont ph d 239 (zstep ph (zEm ph d) 60 65 0 [30, 24] L st M) := zEv_step rfl
theorem e239_65 (ph : Bool) (d : Nat) (L st : List zV) (M : zM) : zEv ph d 239 65 L st M = zcont ph d 239 (zstep ph (zEm ph d) 80 66 0 [] L st M) := zEv_step rfl
theorem pair_undo (d : Nat) (x0 z0 : Int) (M : zM) (hC : relC M) (hE : relE M) (hF : relF M) : zPair M (zEm true (d + 8) 19 [(29, 0, x0)] M) (fun M1 => zEm true (d + 8) 239 [(30, 197, z0)] M1) := by
  have hF2 := hF
  obtain ⟨⟨f0, f1⟩, f2, f3, f4⟩ := hF2
  by_cases c : M 0 13 = 0
  · have f2' : M 197 24 = 0 := by omega
    obtain ⟨a1, a2, a3⟩ := rel_keep (M' := zup M 197 0 0) hC hE hF (fun x y hx => by unfold zup; rw [if_neg (by omega)])
    refine ⟨-1, M, zup M 197 0 0, by simp (disch := first | assumption | exact zrm0 | exact zrm1 _ | exact zrm2 _ _ | exact zrm3 _ _ _ | exact zrm4 _ _ _ _ | omega) only [m19, ↓k_dp, ↓k_dn, k_dp, k_dn, k_dT, k_dF, k_ip, k_in, if_true, if_false, ne_eq, not_true_eq_false, not_false_eq_true, Int.reduceAdd, zup_a, zup_e, zup_j, z32_id, k_al0, k_gI, k_ic, k_iclt, k_gR, k_len, k_icle, k_ri, k_dup, k_isub, k_pI, k_aldS, k_aldI, k_aldW, k_v2, zb0_some, zb1_some, e19_0, e19_1, e19_4, e19_5, e19_8, e19_9, e19_12, e19_13, e19_16, e19_17, e19_20, e19_21, e19_22, e19_23, e19_24, e19_27, e19_28, e19_29, e19_32, e19_33, e19_36, e19_37, e19_40, e19_41, e19_44, e19_45, e19_48, e19_49, e19_52, c], by simp (disch := first | assumption | exact zrm0 | exact zrm1 _ | exact zrm2 _ _ | exact zrm3 _ _ _ | exact zrm4 _ _ _ _ | omega) only [m239, ↓k_dp, ↓k_dn, k_dp, k_dn, k_dT, k_dF, k_ip, k_in, if_true, if_false, ne_eq, not_true_eq_false, not_false_eq_true, Int.reduceAdd, zup_a, zup_e, zup_j, z32_id, k_al0, k_ic, k_pI, k_gI, k_ifne, k_ri, k_dup, k_isub, k_is1, k_il1, k_icge, k_gR, k_iadd, k_imul, k_ild, k_ildS, k_ildW, k_ist, k_inc1, k_goto, e239_0, e239_1, e239_2, e239_5, e239_6, e239_9, e239_12, e239_13, e239_14, e239_15, e239_16, e239_19, e239_20, e239_21, e239_24, e239_25, e239_26, e239_27, e239_29, e239_32, e239_33, e239_36, e239_38, e239_39, e239_40, e239_41, e239_44, e239_46, e239_47, e239_50, e239_51, e239_52, e239_53, e239_54, e239_55, e239_58, e239_61, e239_62, e239_65, f2'], a1, a2, a3, fun x y h => ?_⟩
    unfold zFA zFR at h
    unfold zup
    rw [if_neg (by omega)]
  · obtain ⟨n, hn⟩ : ∃ n, n = M 0 13 - 1 := ⟨_, rfl⟩
    have hn0 : 0 ≤ n := by omega
    have hp := f3.1 n hn0 (by omega)
    obtain ⟨p, hpp⟩ : ∃ p, p = M 77 n := ⟨_, rfl⟩
    rw [← hpp] at hp
    have hp0 : 0 < p := by omega
    have e1 : M 0 13 - 1 = n := hn.symm
    have e2 : M 197 24 - 1 = n := by omega
    have hM : M 0 13 ≠ 0 := c
    have hpos : 0 < zup M 0 13 n 77 n := by rw [zup_a (by omega), ← hpp]; exact hp0
    have hR : M 197 24 ≠ 0 := by omega
    have hc : ∀ y, cpS (zup M 0 13 n) 37 p 0 y = zup M 0 13 n 0 y := fun y => cpS_o (by omega)
    have ho : ∀ x y, ¬ (37 ≤ x ∧ x ≤ 45) → ¬ (x = 0 ∧ y = 13) → cpS (zup M 0 13 n) 37 p x y = M x y := fun x y h h2 => by
      rw [cpS_o (by omega)]
      unfold zup
      rw [if_neg (fun z => h2 ⟨z.1, z.2.1⟩)]
    obtain ⟨N, hN⟩ : ∃ N, N = cpS (zup M 0 13 n) 37 p := ⟨_, rfl⟩
    have hcc : zEm true (d + 8) 19 [(29, 0, x0)] M = some ((0, n, 0), N) := by
      rw [hN]
      simp (disch := first | assumption | exact zrm0 | exact zrm1 _ | exact zrm2 _ _ | exact zrm3 _ _ _ | exact zrm4 _ _ _ _ | omega) only [m19, ↓k_dp, ↓k_dn, k_dp, k_dn, k_dT, k_dF, k_ip, k_in, if_true, if_false, ne_eq, not_true_eq_false, not_false_eq_true, Int.reduceAdd, zup_a, zup_e, zup_j, z32_id, k_al0, k_gI, k_ic, k_iclt, k_gR, k_len, k_icle, k_ri, k_dup, k_isub, k_pI, k_aldS, k_aldI, k_aldW, k_v2, zb0_some, zb1_some, e19_0, e19_1, e19_4, e19_5, e19_8, e19_9, e19_12, e19_13, e19_16, e19_17, e19_20, e19_21, e19_22, e19_23, e19_24, e19_27, e19_28, e19_29, e19_32, e19_33, e19_36, e19_37, e19_40, e19_41, e19_44, e19_45, e19_48, e19_49, e19_52, e1, hpp.symm, s_copyS, hc]
    rw [← hN] at ho
    have hN24 : N 197 24 = M 197 24 := ho _ _ (by omega) (by omega)
    obtain ⟨T, hT⟩ : ∃ T, T = zup (zup N 197 0 0) 197 24 n := ⟨_, rfl⟩
    have hT24 : T 197 24 = n := by rw [hT, zup_e (by omega)]
    have hl := zfor (ph := true) (d := d + 7) (j := 239) (pc := 26) (fun k U => zup U 199 (75 + k) (U 202 (51 * n + k))) (fun k U => 0 ≤ k ∧ U 197 24 = n) (fun k _ => [(30, 197, z0), (0, k, 0)]) (fun U => U) 51
      (fun k b hk hP => ⟨by
        obtain ⟨h0, h1⟩ := hP
        rw [e239_26]
        simp (disch := first | assumption | exact zrm0 | exact zrm1 _ | exact zrm2 _ _ | exact zrm3 _ _ _ | exact zrm4 _ _ _ _ | omega) only [m239, ↓k_dp, ↓k_dn, k_dp, k_dn, k_dT, k_dF, k_ip, k_in, if_true, if_false, ne_eq, not_true_eq_false, not_false_eq_true, Int.reduceAdd, zup_a, zup_e, zup_j, z32_id, k_al0, k_ic, k_pI, k_gI, k_ifne, k_ri, k_dup, k_isub, k_is1, k_il1, k_icge, k_gR, k_iadd, k_imul, k_ild, k_ildS, k_ildW, k_ist, k_inc1, k_goto, e239_0, e239_1, e239_2, e239_5, e239_6, e239_9, e239_12, e239_13, e239_14, e239_15, e239_16, e239_19, e239_20, e239_21, e239_24, e239_25, e239_27, e239_29, e239_32, e239_33, e239_36, e239_38, e239_39, e239_40, e239_41, e239_44, e239_46, e239_47, e239_50, e239_51, e239_52, e239_53, e239_54, e239_55, e239_58, e239_61, e239_62, e239_65, h1], by omega, by rw [zup_a (by omega)]; exact hP.2⟩) 51 0 T (by omega) ⟨Int.le_refl _, hT24⟩
    rw [zit_cpy (by omega) (Or.inl (by omega))] at hl
    obtain ⟨h1, -, h2⟩ := hl
    have hrc : zEm true (d + 8) 239 [(30, 197, z0)] N = some ((0, n, 0), zcpy T 202 (51 * n) 199 75 (51 : Nat)) := by
      have hR2 : N 197 24 ≠ 0 := by omega
      have e3 : N 197 24 - 1 = n := by omega
      simp (disch := first | assumption | exact zrm0 | exact zrm1 _ | exact zrm2 _ _ | exact zrm3 _ _ _ | exact zrm4 _ _ _ _ | omega) only [m239, ↓k_dp, ↓k_dn, k_dp, k_dn, k_dT, k_dF, k_ip, k_in, if_true, if_false, ne_eq, not_true_eq_false, not_false_eq_true, Int.reduceAdd, zup_a, zup_e, zup_j, z32_id, k_al0, k_ic, k_pI, k_gI, k_ifne, k_ri, k_dup, k_isub, k_is1, k_il1, k_icge, k_gR, k_iadd, k_imul, k_ild, k_ildS, k_ildW, k_ist, k_inc1, k_goto, e239_0, e239_1, e239_2, e239_5, e239_6, e239_9, e239_12, e239_13, e239_14, e239_15, e239_16, e239_19, e239_20, e239_21, e239_24, e239_25, e239_27, e239_29, e239_32, e239_33, e239_36, e239_38, e239_39, e239_40, e239_41, e239_44, e239_46, e239_47, e239_50, e239_51, e239_52, e239_53, e239_54, e239_55, e239_58, e239_61, e239_62, e239_65, e3, hT.symm]
      rw [h1]
      simp (disch := first | assumption | exact zrm0 | exact zrm1 _ | exact zrm2 _ _ | exact zrm3 _ _ _ | exact zrm4 _ _ _ _ | omega) only [m239, ↓k_dp, ↓k_dn, k_dp, k_dn, k_dT, k_dF, k_ip, k_in, if_true, if_false, ne_eq, not_true_eq_false, not_false_eq_true, Int.reduceAdd, zup_a, zup_e, zup_j, z32_id, k_al0, k_ic, k_pI, k_gI, k_ifne, k_ri, k_dup, k_isub, k_is1, k_il1, k_icge, k_gR, k_iadd, k_imul, k_ild, k_ildS, k_ildW, k_ist, k_inc1, k_goto, e239_0, e239_1, e239_2, e239_5, e239_6, e239_9, e239_12, e239_13, e239_14, e239_15, e239_16, e239_19, e239_20, e239_21, e239_24, e239_25, e239_26, e239_27, e239_29, e239_32, e239_33, e239_36, e239_38, e239_39, e239_40, e239_41, e239_44, e239_46, e239_47, e239_50, e239_51, e239_52, e239_53, e239_54, e239_55, e239_58, e239_61, e239_62, e239_65, h2]
    obtain ⟨Z, hZ⟩ : ∃ Z, Z = zcpy T 202 (51 * n) 199 75 (51 : Nat) := ⟨_, rfl⟩
    rw [← hZ] at hrc h2
    have hTo : ∀ x y, ¬ (x = 197 ∧ (y = 0 ∨ y = 24)) → T x y = N x y := fun x y h => by
      rw [hT]
      unfold zup
      rw [if_neg (by omega), if_neg (by omega)]
    have hZo : ∀ x y, ¬ (x = 199 ∧ 75 ≤ y ∧ y ≤ 125) → Z x y = T x y := fun x y h => by rw [hZ, zcpy_z (by omega)]
    have hZi : ∀ k, 0 ≤ k → k < 51 → Z 199 (75 + k) = M 202 (51 * n + k) := fun k k0 k1 => by
      rw [hZ, zcpy_i (by omega) (by omega) (by omega), hTo _ _ (by omega), ho _ _ (by omega) (by omega)]
      congr 1
      omega
    have hZM : ∀ x y, ¬ (37 ≤ x ∧ x ≤ 45) → ¬ (x = 0 ∧ y = 13) → ¬ (x = 197 ∧ (y = 0 ∨ y = 24)) → ¬ (x = 199 ∧ 75 ≤ y ∧ y ≤ 125) → Z x y = M x y := fun x y a1 a2 a3 a4 => by rw [hZo x y a4, hTo x y a3, ho x y a1 a2]
    have eG : zvG Z 30 = zvG M 30 := zvG_eq (fun x y a1 a2 => hZM x y (by omega) (by omega) (by omega) (by omega))
    have eQ : zrG Z = zrG M := zrG_eq (fun y a1 a2 => hZM 199 y (by omega) (by omega) (by omega) (by omega))
    have eS : zvS Z 37 = zvS M p := by
      rw [zvS_eq (M := N) (fun x y a1 a2 => by rw [hZo x y (by omega), hTo x y (by omega)]), hN, zvS_cp (by omega) (by omega)]
      exact zvS_eq (fun x y a1 a2 => zup_a (by omega))
    have eR : zrS Z = zsS M (51 * n) := by
      funext i y
      unfold zrS zsS
      by_cases hd : sdom i y
      · have hb := rix_bd hd
        rw [zif_t hd, zif_t hd]
        have := hZi (rix i y - 75) (by omega) (by omega)
        rw [show 75 + (rix i y - 75) = rix i y by omega] at this
        exact this
      · rw [zif_f hd, zif_f hd]
    obtain ⟨k1, k2, k3⟩ := f4 n hn0 (by omega)
    rw [← hpp] at k1 k2 k3
    have e13 : Z 0 13 = n := by rw [hZo _ _ (by omega), hTo _ _ (by omega), hN, hc, zup_e (by omega)]
    have e77 : ∀ i, Z 77 i = M 77 i := fun i => hZM _ _ (by omega) (by omega) (by omega) (by omega)
    refine ⟨n, N, Z, hcc, hrc, ⟨by rw [eG, eQ]; exact hC.1, by rw [eG]; exact hC.2⟩, ⟨by rw [eR, eS]; exact k1, by rw [eS, eG]; exact k2, ?_⟩, ⟨by rw [e13]; omega, by rw [e13]; exact h2, okP_eq e77 f3, fun i i0 i1 => ?_⟩, fun x y h => ?_⟩
    · have := hZi 3 (by omega) (by omega)
      rw [show (75 : Int) + 3 = 78 from rfl] at this
      rw [this, k3, eS, eG]
    · rw [e13] at i1
      obtain ⟨q1, q2, q3⟩ := f4 i i0 (by omega)
      have hq := f3.1 i i0 (by omega)
      have eV : zvS Z (M 77 i) = zvS M (M 77 i) := zvS_eq (fun x y a1 a2 => hZM x y (by omega) (by omega) (by omega) (by omega))
      have eZ : zsS Z (51 * i) = zsS M (51 * i) := zsS_eq (fun y a1 a2 => hZM 202 y (by omega) (by omega) (by omega) (by omega))
      rw [e77, eV, eZ, eG, hZM 202 _ (by omega) (by omega) (by omega) (by omega)]
      exact ⟨q1, q2, q3⟩
    · unfold zFA zFC zFR at h
      exact hZM x y (by omega) (by omega) (by omega) (by omega)
