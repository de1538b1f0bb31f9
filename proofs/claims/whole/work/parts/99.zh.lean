/-! the class's images -/
theorem m43 (ph : Bool) (d : Nat) (a x0 p0 y0 : Int) (M : zM) : zEm ph (d + 1) 43 [(29, a, x0), (0, p0, y0)] M = zEv ph d 43 0 [(29, a, x0), (0, p0, y0), (3, 0, 0)] [] M := rfl
theorem e43_0 (ph : Bool) (d : Nat) (L st : List zV) (M : zM) : zEv ph d 43 0 L st M = zcont ph d 43 (zstep ph (zEm ph d) 2 1 0 [1] L st M) := zEv_step rfl
theorem e43_1 (ph : Bool) (d : Nat) (L st : List zV) (M : zM) : zEv ph d 43 1 L st M = zcont ph d 43 (zstep ph (zEm ph d) 42 4 13 [] L st M) := zEv_step rfl
theorem e43_4 (ph : Bool) (d : Nat) (L st : List zV) (M : zM) : zEv ph d 43 4 L st M = zcont ph d 43 (zstep ph (zEm ph d) 2 5 0 [1] L st M) := zEv_step rfl
theorem e43_5 (ph : Bool) (d : Nat) (L st : List zV) (M : zM) : zEv ph d 43 5 L st M = zcont ph d 43 (zstep ph (zEm ph d) 4 6 0 [0] L st M) := zEv_step rfl
theorem e43_6 (ph : Bool) (d : Nat) (L st : List zV) (M : zM) : zEv ph d 43 6 L st M = zcont ph d 43 (zstep ph (zEm ph d) 62 9 0 [29, 10, 78, 15, 2] L st M) := zEv_step rfl
theorem e43_9 (ph : Bool) (d : Nat) (L st : List zV) (M : zM) : zEv ph d 43 9 L st M = zcont ph d 43 (zstep ph (zEm ph d) 84 10 0 [] L st M) := zEv_step rfl
theorem e43_10 (ph : Bool) (d : Nat) (L st : List zV) (M : zM) : zEv ph d 43 10 L st M = zcont ph d 43 (zstep ph (zEm ph d) 48 13 15 [] L st M) := zEv_step rfl
theorem e43_13 (ph : Bool) (d : Nat) (L st : List zV) (M : zM) : zEv ph d 43 13 L st M = zcont ph d 43 (zstep ph (zEm ph d) 0 14 0 [0] L st M) := zEv_step rfl
theorem e43_14 (ph : Bool) (d : Nat) (L st : List zV) (M : zM) : zEv ph d 43 14 L st M = zcont ph d 43 (zstep ph (zEm ph d) 80 15 0 [0, 1] L st M) := zEv_step rfl
theorem e43_15 (ph : Bool) (d : Nat) (L st : List zV) (M : zM) : zEv ph d 43 15 L st M = zcont ph d 43 (zstep ph (zEm ph d) 4 16 0 [0] L st M) := zEv_step rfl
theorem e43_16 (ph : Bool) (d : Nat) (L st : List zV) (M : zM) : zEv ph d 43 16 L st M = zcont ph d 43 (zstep ph (zEm ph d) 62 19 0 [29, 10, 78, 15, 2] L st M) := zEv_step rfl
theorem e43_19 (ph : Bool) (d : Nat) (L st : List zV) (M : zM) : zEv ph d 43 19 L st M = zcont ph d 43 (zstep ph (zEm ph d) 2 20 0 [1] L st M) := zEv_step rfl
theorem e43_20 (ph : Bool) (d : Nat) (L st : List zV) (M : zM) : zEv ph d 43 20 L st M = zcont ph d 43 (zstep ph (zEm ph d) 88 21 0 [] L st M) := zEv_step rfl
theorem e43_21 (ph : Bool) (d : Nat) (L st : List zV) (M : zM) : zEv ph d 43 21 L st M = zcont ph d 43 (zstep ph (zEm ph d) 7 22 0 [2] L st M) := zEv_step rfl
theorem e43_22 (ph : Bool) (d : Nat) (L st : List zV) (M : zM) : zEv ph d 43 22 L st M = zcont ph d 43 (zstep ph (zEm ph d) 4 23 0 [2] L st M) := zEv_step rfl
theorem e43_23 (ph : Bool) (d : Nat) (L st : List zV) (M : zM) : zEv ph d 43 23 L st M = zcont ph d 43 (zstep ph (zEm ph d) 62 26 0 [21, 0, 1, 28, 0] L st M) := zEv_step rfl
theorem e43_26 (ph : Bool) (d : Nat) (L st : List zV) (M : zM) : zEv ph d 43 26 L st M = zcont ph d 43 (zstep ph (zEm ph d) 4 27 0 [0] L st M) := zEv_step rfl
theorem e43_27 (ph : Bool) (d : Nat) (L st : List zV) (M : zM) : zEv ph d 43 27 L st M = zcont ph d 43 (zstep ph (zEm ph d) 62 30 0 [29, 2, 30, 28, 0] L st M) := zEv_step rfl
theorem e43_30 (ph : Bool) (d : Nat) (L st : List zV) (M : zM) : zEv ph d 43 30 L st M = zcont ph d 43 (zstep ph (zEm ph d) 70 33 153 [2, 0, 28] L st M) := zEv_step rfl
theorem e43_33 (ph : Bool) (d : Nat) (L st : List zV) (M : zM) : zEv ph d 43 33 L st M = zcont ph d 43 (zstep ph (zEm ph d) 4 34 0 [2] L st M) := zEv_step rfl
theorem e43_34 (ph : Bool) (d : Nat) (L st : List zV) (M : zM) : zEv ph d 43 34 L st M = zcont ph d 43 (zstep ph (zEm ph d) 62 37 0 [21, 1, 8, 26, 0] L st M) := zEv_step rfl
theorem e43_37 (ph : Bool) (d : Nat) (L st : List zV) (M : zM) : zEv ph d 43 37 L st M = zcont ph d 43 (zstep ph (zEm ph d) 4 38 0 [0] L st M) := zEv_step rfl
theorem e43_38 (ph : Bool) (d : Nat) (L st : List zV) (M : zM) : zEv ph d 43 38 L st M = zcont ph d 43 (zstep ph (zEm ph d) 62 41 0 [29, 3, 37, 26, 0] L st M) := zEv_step rfl
theorem e43_41 (ph : Bool) (d : Nat) (L st : List zV) (M : zM) : zEv ph d 43 41 L st M = zcont ph d 43 (zstep ph (zEm ph d) 70 44 113 [2, 0, 26] L st M) := zEv_step rfl
theorem e43_44 (ph : Bool) (d : Nat) (L st : List zV) (M : zM) : zEv ph d 43 44 L st M = zcont ph d 43 (zstep ph (zEm ph d) 4 45 0 [2] L st M) := zEv_step rfl
theorem e43_45 (ph : Bool) (d : Nat) (L st : List zV) (M : zM) : zEv ph d 43 45 L st M = zcont ph d 43 (zstep ph (zEm ph d) 62 48 0 [21, 2, 17, 25, 0] L st M) := zEv_step rfl
theorem e43_48 (ph : Bool) (d : Nat) (L st : List zV) (M : zM) : zEv ph d 43 48 L st M = zcont ph d 43 (zstep ph (zEm ph d) 4 49 0 [0] L st M) := zEv_step rfl
theorem e43_49 (ph : Bool) (d : Nat) (L st : List zV) (M : zM) : zEv ph d 43 49 L st M = zcont ph d 43 (zstep ph (zEm ph d) 62 52 0 [29, 4, 46, 25, 0] L st M) := zEv_step rfl
theorem e43_52 (ph : Bool) (d : Nat) (L st : List zV) (M : zM) : zEv ph d 43 52 L st M = zcont ph d 43 (zstep ph (zEm ph d) 70 55 105 [2, 0, 25] L st M) := zEv_step rfl
theorem e43_55 (ph : Bool) (d : Nat) (L st : List zV) (M : zM) : zEv ph d 43 55 L st M = zcont ph d 43 (zstep ph (zEm ph d) 4 56 0 [2] L st M) := zEv_step rfl
theorem e43_56 (ph : Bool) (d : Nat) (L st : List zV) (M : zM) : zEv ph d 43 56 L st M = zcont ph d 43 (zstep ph (zEm ph d) 0 57 0 [1] L st M) := zEv_step rfl
theorem e43_57 (ph : Bool) (d : Nat) (L st : List zV) (M : zM) : zEv ph d 43 57 L st M = zcont ph d 43 (zstep ph (zEm ph d) 65 60 0 [21, 3, 0, 1] L st M) := zEv_step rfl
theorem e43_60 (ph : Bool) (d : Nat) (L st : List zV) (M : zM) : zEv ph d 43 60 L st M = zcont ph d 43 (zstep ph (zEm ph d) 0 61 0 [1] L st M) := zEv_step rfl
theorem e43_61 (ph : Bool) (d : Nat) (L st : List zV) (M : zM) : zEv ph d 43 61 L st M = zcont ph d 43 (zstep ph (zEm ph d) 80 62 0 [0, 1] L st M) := zEv_step rfl
theorem m44 (ph : Bool) (d : Nat) (a x0 p0 y0 : Int) (M : zM) : zEm ph (d + 1) 44 [(29, a, x0), (0, p0, y0)] M = zEv ph d 44 0 [(29, a, x0), (0, p0, y0), (3, 0, 0)] [] M := rfl
theorem e44_0 (ph : Bool) (d : Nat) (L st : List zV) (M : zM) : zEv ph d 44 0 L st M = zcont ph d 44 (zstep ph (zEm ph d) 2 1 0 [1] L st M) := zEv_step rfl
theorem e44_1 (ph : Bool) (d : Nat) (L st : List zV) (M : zM) : zEv ph d 44 1 L st M = zcont ph d 44 (zstep ph (zEm ph d) 42 4 25 [] L st M) := zEv_step rfl
theorem e44_4 (ph : Bool) (d : Nat) (L st : List zV) (M : zM) : zEv ph d 44 4 L st M = zcont ph d 44 (zstep ph (zEm ph d) 2 5 0 [1] L st M) := zEv_step rfl
theorem e44_5 (ph : Bool) (d : Nat) (L st : List zV) (M : zM) : zEv ph d 44 5 L st M = zcont ph d 44 (zstep ph (zEm ph d) 4 6 0 [0] L st M) := zEv_step rfl
theorem e44_6 (ph : Bool) (d : Nat) (L st : List zV) (M : zM) : zEv ph d 44 6 L st M = zcont ph d 44 (zstep ph (zEm ph d) 62 9 0 [29, 10, 78, 15, 2] L st M) := zEv_step rfl
theorem e44_9 (ph : Bool) (d : Nat) (L st : List zV) (M : zM) : zEv ph d 44 9 L st M = zcont ph d 44 (zstep ph (zEm ph d) 84 10 0 [] L st M) := zEv_step rfl
theorem e44_10 (ph : Bool) (d : Nat) (L st : List zV) (M : zM) : zEv ph d 44 10 L st M = zcont ph d 44 (zstep ph (zEm ph d) 49 13 25 [] L st M) := zEv_step rfl
theorem e44_13 (ph : Bool) (d : Nat) (L st : List zV) (M : zM) : zEv ph d 44 13 L st M = zcont ph d 44 (zstep ph (zEm ph d) 4 14 0 [0] L st M) := zEv_step rfl
theorem e44_14 (ph : Bool) (d : Nat) (L st : List zV) (M : zM) : zEv ph d 44 14 L st M = zcont ph d 44 (zstep ph (zEm ph d) 62 17 0 [29, 10, 78, 15, 2] L st M) := zEv_step rfl
theorem e44_17 (ph : Bool) (d : Nat) (L st : List zV) (M : zM) : zEv ph d 44 17 L st M = zcont ph d 44 (zstep ph (zEm ph d) 2 18 0 [1] L st M) := zEv_step rfl
theorem e44_18 (ph : Bool) (d : Nat) (L st : List zV) (M : zM) : zEv ph d 44 18 L st M = zcont ph d 44 (zstep ph (zEm ph d) 88 19 0 [] L st M) := zEv_step rfl
theorem e44_19 (ph : Bool) (d : Nat) (L st : List zV) (M : zM) : zEv ph d 44 19 L st M = zcont ph d 44 (zstep ph (zEm ph d) 60 22 0 [21, 3] L st M) := zEv_step rfl
theorem e44_22 (ph : Bool) (d : Nat) (L st : List zV) (M : zM) : zEv ph d 44 22 L st M = zcont ph d 44 (zstep ph (zEm ph d) 41 25 27 [] L st M) := zEv_step rfl
theorem e44_25 (ph : Bool) (d : Nat) (L st : List zV) (M : zM) : zEv ph d 44 25 L st M = zcont ph d 44 (zstep ph (zEm ph d) 0 26 0 [0] L st M) := zEv_step rfl
theorem e44_26 (ph : Bool) (d : Nat) (L st : List zV) (M : zM) : zEv ph d 44 26 L st M = zcont ph d 44 (zstep ph (zEm ph d) 80 27 0 [0, 1] L st M) := zEv_step rfl
theorem e44_27 (ph : Bool) (d : Nat) (L st : List zV) (M : zM) : zEv ph d 44 27 L st M = zcont ph d 44 (zstep ph (zEm ph d) 4 28 0 [0] L st M) := zEv_step rfl
theorem e44_28 (ph : Bool) (d : Nat) (L st : List zV) (M : zM) : zEv ph d 44 28 L st M = zcont ph d 44 (zstep ph (zEm ph d) 62 31 0 [29, 10, 78, 15, 2] L st M) := zEv_step rfl
theorem e44_31 (ph : Bool) (d : Nat) (L st : List zV) (M : zM) : zEv ph d 44 31 L st M = zcont ph d 44 (zstep ph (zEm ph d) 2 32 0 [1] L st M) := zEv_step rfl
theorem e44_32 (ph : Bool) (d : Nat) (L st : List zV) (M : zM) : zEv ph d 44 32 L st M = zcont ph d 44 (zstep ph (zEm ph d) 88 33 0 [] L st M) := zEv_step rfl
theorem e44_33 (ph : Bool) (d : Nat) (L st : List zV) (M : zM) : zEv ph d 44 33 L st M = zcont ph d 44 (zstep ph (zEm ph d) 7 34 0 [2] L st M) := zEv_step rfl
theorem e44_34 (ph : Bool) (d : Nat) (L st : List zV) (M : zM) : zEv ph d 44 34 L st M = zcont ph d 44 (zstep ph (zEm ph d) 4 35 0 [0] L st M) := zEv_step rfl
theorem e44_35 (ph : Bool) (d : Nat) (L st : List zV) (M : zM) : zEv ph d 44 35 L st M = zcont ph d 44 (zstep ph (zEm ph d) 62 38 0 [29, 2, 30, 28, 0] L st M) := zEv_step rfl
theorem e44_38 (ph : Bool) (d : Nat) (L st : List zV) (M : zM) : zEv ph d 44 38 L st M = zcont ph d 44 (zstep ph (zEm ph d) 4 39 0 [2] L st M) := zEv_step rfl
theorem e44_39 (ph : Bool) (d : Nat) (L st : List zV) (M : zM) : zEv ph d 44 39 L st M = zcont ph d 44 (zstep ph (zEm ph d) 62 42 0 [21, 0, 1, 28, 0] L st M) := zEv_step rfl
theorem e44_42 (ph : Bool) (d : Nat) (L st : List zV) (M : zM) : zEv ph d 44 42 L st M = zcont ph d 44 (zstep ph (zEm ph d) 70 45 153 [2, 0, 28] L st M) := zEv_step rfl
theorem e44_45 (ph : Bool) (d : Nat) (L st : List zV) (M : zM) : zEv ph d 44 45 L st M = zcont ph d 44 (zstep ph (zEm ph d) 4 46 0 [0] L st M) := zEv_step rfl
theorem e44_46 (ph : Bool) (d : Nat) (L st : List zV) (M : zM) : zEv ph d 44 46 L st M = zcont ph d 44 (zstep ph (zEm ph d) 62 49 0 [29, 3, 37, 26, 0] L st M) := zEv_step rfl
theorem e44_49 (ph : Bool) (d : Nat) (L st : List zV) (M : zM) : zEv ph d 44 49 L st M = zcont ph d 44 (zstep ph (zEm ph d) 4 50 0 [2] L st M) := zEv_step rfl
theorem e44_50 (ph : Bool) (d : Nat) (L st : List zV) (M : zM) : zEv ph d 44 50 L st M = zcont ph d 44 (zstep ph (zEm ph d) 62 53 0 [21, 1, 8, 26, 0] L st M) := zEv_step rfl
theorem e44_53 (ph : Bool) (d : Nat) (L st : List zV) (M : zM) : zEv ph d 44 53 L st M = zcont ph d 44 (zstep ph (zEm ph d) 70 56 113 [2, 0, 26] L st M) := zEv_step rfl
theorem e44_56 (ph : Bool) (d : Nat) (L st : List zV) (M : zM) : zEv ph d 44 56 L st M = zcont ph d 44 (zstep ph (zEm ph d) 4 57 0 [0] L st M) := zEv_step rfl
theorem e44_57 (ph : Bool) (d : Nat) (L st : List zV) (M : zM) : zEv ph d 44 57 L st M = zcont ph d 44 (zstep ph (zEm ph d) 62 60 0 [29, 4, 46, 25, 0] L st M) := zEv_step rfl
theorem e44_60 (ph : Bool) (d : Nat) (L st : List zV) (M : zM) : zEv ph d 44 60 L st M = zcont ph d 44 (zstep ph (zEm ph d) 4 61 0 [2] L st M) := zEv_step rfl
theorem e44_61 (ph : Bool) (d : Nat) (L st : List zV) (M : zM) : zEv ph d 44 61 L st M = zcont ph d 44 (zstep ph (zEm ph d) 62 64 0 [21, 2, 17, 25, 0] L st M) := zEv_step rfl
theorem e44_64 (ph : Bool) (d : Nat) (L st : List zV) (M : zM) : zEv ph d 44 64 L st M = zcont ph d 44 (zstep ph (zEm ph d) 70 67 105 [2, 0, 25] L st M) := zEv_step rfl
theorem e44_67 (ph : Bool) (d : Nat) (L st : List zV) (M : zM) : zEv ph d 44 67 L st M = zcont ph d 44 (zstep ph (zEm ph d) 4 68 0 [0] L st M) := zEv_step rfl
theorem e44_68 (ph : Bool) (d : Nat) (L st : List zV) (M : zM) : zEv ph d 44 68 L st M = zcont ph d 44 (zstep ph (zEm ph d) 0 69 0 [0] L st M) := zEv_step rfl
theorem e44_69 (ph : Bool) (d : Nat) (L st : List zV) (M : zM) : zEv ph d 44 69 L st M = zcont ph d 44 (zstep ph (zEm ph d) 65 72 0 [29, 13] L st M) := zEv_step rfl
theorem e44_72 (ph : Bool) (d : Nat) (L st : List zV) (M : zM) : zEv ph d 44 72 L st M = zcont ph d 44 (zstep ph (zEm ph d) 0 73 0 [1] L st M) := zEv_step rfl
theorem e44_73 (ph : Bool) (d : Nat) (L st : List zV) (M : zM) : zEv ph d 44 73 L st M = zcont ph d 44 (zstep ph (zEm ph d) 80 74 0 [0, 1] L st M) := zEv_step rfl
def cImg (M : zM) (a : Int) : zM := zup (cpN (cpS (cpV M (a + 1) 30) (a + 8) 37) (a + 17) 46) a 3 1
theorem c_image (d : Nat) (x0 k y a : Int) (M : zM) (ha : 0 ≤ k → k ≤ 1 → M 78 k = a ∧ 60 ≤ a) : (¬ (0 ≤ k ∧ k ≤ 1) → zEm true (d + 8) 43 [(29, 0, x0), (0, k, y)] M = some ((0, 0, 0), M)) ∧ ((0 ≤ k ∧ k ≤ 1) → zEm true (d + 8) 43 [(29, 0, x0), (0, k, y)] M = some ((0, 1, 0), cImg M a)) := by
  refine ⟨fun c => ?_, fun c => ?_⟩
  · simp (disch := first | assumption | exact zrm0 | exact zrm1 _ | exact zrm2 _ _ | exact zrm3 _ _ _ | exact zrm4 _ _ _ _ | omega) only [m43, ↓k_dp, ↓k_dn, k_dp, k_dn, k_dT, k_dF, k_ip, k_in, if_true, if_false, ne_eq, not_true_eq_false, not_false_eq_true, Int.reduceAdd, zup_a, zup_e, zup_j, z32_id, k_il1, k_iflt, k_al0, k_gR, k_len, k_iclt, k_ic, k_rz, k_aldS, k_aldI, k_aldW, k_as2, k_al2, k_v2, k_pZ, zb0_some, zb1_some, e43_0, e43_1, e43_4, e43_5, e43_6, e43_9, e43_10, e43_13, e43_14, e43_15, e43_16, e43_19, e43_20, e43_21, e43_22, e43_23, e43_26, e43_27, e43_30, e43_33, e43_34, e43_37, e43_38, e43_41, e43_44, e43_45, e43_48, e43_49, e43_52, e43_55, e43_56, e43_57, e43_60, e43_61]
    all_goals (split <;> rfl)
  · obtain ⟨h1, h2⟩ := ha c.1 c.2
    have h0 : 0 < M 78 k := by omega
    unfold cImg
    have k2 : k < 2 := by omega
    have k0 := c.1
    simp (disch := first | assumption | exact zrm0 | exact zrm1 _ | exact zrm2 _ _ | exact zrm3 _ _ _ | exact zrm4 _ _ _ _ | omega) only [m43, ↓k_dp, ↓k_dn, k_dp, k_dn, k_dT, k_dF, k_ip, k_in, if_true, if_false, ne_eq, not_true_eq_false, not_false_eq_true, Int.reduceAdd, zup_a, zup_e, zup_j, z32_id, k_il1, k_iflt, k_al0, k_gR, k_len, k_iclt, k_ic, k_rz, k_aldS, k_aldI, k_aldW, k_as2, k_al2, k_v2, k_pZ, zb0_some, zb1_some, e43_0, e43_1, e43_4, e43_5, e43_6, e43_9, e43_10, e43_13, e43_14, e43_15, e43_16, e43_19, e43_20, e43_21, e43_22, e43_23, e43_26, e43_27, e43_30, e43_33, e43_34, e43_37, e43_38, e43_41, e43_44, e43_45, e43_48, e43_49, e43_52, e43_55, e43_56, e43_57, e43_60, e43_61, s_copyV, s_copyS, s_copyN, h1]
def cRes (M : zM) (a : Int) : zM := zup (cpN (cpS (cpV M 30 (a + 1)) 37 (a + 8)) 46 (a + 17)) 0 13 0
theorem c_restore (d : Nat) (x0 k y a : Int) (M : zM) (ha : 0 ≤ k → k ≤ 1 → M 78 k = a ∧ 81 ≤ a) : (¬ ((0 ≤ k ∧ k ≤ 1) ∧ M a 3 ≠ 0) → zEm true (d + 8) 44 [(29, 0, x0), (0, k, y)] M = some ((0, 0, 0), M)) ∧ (((0 ≤ k ∧ k ≤ 1) ∧ M a 3 ≠ 0) → zEm true (d + 8) 44 [(29, 0, x0), (0, k, y)] M = some ((0, 1, 0), cRes M a)) := by
  refine ⟨fun c => ?_, fun c => ?_⟩
  · by_cases c1 : 0 ≤ k ∧ k ≤ 1
    · obtain ⟨h1, h2⟩ := ha c1.1 c1.2
      have h0 : 0 < M 78 k := by omega
      have c2 : M a 3 = 0 := Classical.byContradiction (fun h => c ⟨c1, h⟩)
      have k0 := c1.1
      have k2 : k < 2 := by omega
      simp (disch := first | assumption | exact zrm0 | exact zrm1 _ | exact zrm2 _ _ | exact zrm3 _ _ _ | exact zrm4 _ _ _ _ | omega) only [m44, ↓k_dp, ↓k_dn, k_dp, k_dn, k_dT, k_dF, k_ip, k_in, if_true, if_false, ne_eq, not_true_eq_false, not_false_eq_true, Int.reduceAdd, zup_a, zup_e, zup_j, z32_id, k_il1, k_iflt, k_al0, k_gR, k_len, k_icge, k_aldS, k_aldI, k_aldW, k_gI, k_ifne, k_ic, k_rz, k_as2, k_al2, k_v2, k_pI, zb0_some, zb1_some, e44_0, e44_1, e44_4, e44_5, e44_6, e44_9, e44_10, e44_13, e44_14, e44_17, e44_18, e44_19, e44_22, e44_25, e44_26, e44_27, e44_28, e44_31, e44_32, e44_33, e44_34, e44_35, e44_38, e44_39, e44_42, e44_45, e44_46, e44_49, e44_50, e44_53, e44_56, e44_57, e44_60, e44_61, e44_64, e44_67, e44_68, e44_69, e44_72, e44_73, h1, c2]
    · simp (disch := first | assumption | exact zrm0 | exact zrm1 _ | exact zrm2 _ _ | exact zrm3 _ _ _ | exact zrm4 _ _ _ _ | omega) only [m44, ↓k_dp, ↓k_dn, k_dp, k_dn, k_dT, k_dF, k_ip, k_in, if_true, if_false, ne_eq, not_true_eq_false, not_false_eq_true, Int.reduceAdd, zup_a, zup_e, zup_j, z32_id, k_il1, k_iflt, k_al0, k_gR, k_len, k_icge, k_aldS, k_aldI, k_aldW, k_gI, k_ifne, k_ic, k_rz, k_as2, k_al2, k_v2, k_pI, zb0_some, zb1_some, e44_0, e44_1, e44_4, e44_5, e44_6, e44_9, e44_10, e44_13, e44_14, e44_17, e44_18, e44_19, e44_22, e44_25, e44_26, e44_27, e44_28, e44_31, e44_32, e44_33, e44_34, e44_35, e44_38, e44_39, e44_42, e44_45, e44_46, e44_49, e44_50, e44_53, e44_56, e44_57, e44_60, e44_61, e44_64, e44_67, e44_68, e44_69, e44_72, e44_73]
      all_goals (split <;> rfl)
  · obtain ⟨c1, c2⟩ := c
    obtain ⟨h1, h2⟩ := ha c1.1 c1.2
    have h0 : 0 < M 78 k := by omega
    have k0 := c1.1
    have k2 : k < 2 := by omega
    unfold cRes
    have e1 : cpV M 30 (a + 1) 78 k = a := by rw [cpV_o (by omega)]; exact h1
    simp (disch := first | assumption | exact zrm0 | exact zrm1 _ | exact zrm2 _ _ | exact zrm3 _ _ _ | exact zrm4 _ _ _ _ | omega) only [m44, ↓k_dp, ↓k_dn, k_dp, k_dn, k_dT, k_dF, k_ip, k_in, if_true, if_false, ne_eq, not_true_eq_false, not_false_eq_true, Int.reduceAdd, zup_a, zup_e, zup_j, z32_id, k_il1, k_iflt, k_al0, k_gR, k_len, k_icge, k_aldS, k_aldI, k_aldW, k_gI, k_ifne, k_ic, k_rz, k_as2, k_al2, k_v2, k_pI, zb0_some, zb1_some, e44_0, e44_1, e44_4, e44_5, e44_6, e44_9, e44_10, e44_13, e44_14, e44_17, e44_18, e44_19, e44_22, e44_25, e44_26, e44_27, e44_28, e44_31, e44_32, e44_33, e44_34, e44_35, e44_38, e44_39, e44_42, e44_45, e44_46, e44_49, e44_50, e44_53, e44_56, e44_57, e44_60, e44_61, e44_64, e44_67, e44_68, e44_69, e44_72, e44_73, s_copyV, s_copyS, s_copyN, h1, c2]
