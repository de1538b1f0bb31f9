/-! odds: both -/
theorem c_drawDaysCall (d : Nat) (x0 a x1 n y s y2 : Int) (N : zM) (ha : 9 ≤ a) (sep : 30 + 7 ≤ a) (hG : okG (zvG N 30)) (hD : okD (zvS N a) (zvG N 30)) (m : Nat) (hm : (m : Int) = sMin n (400 - N a 10)) (n0 : 0 ≤ n) (n1 : n ≤ 60) : zEm true (d + 6) 61 [(29, 0, x0), (26, a, x1), (0, n, y), (0, s, y2)] N = some ((0, (m : Int), 0), zput (zup N 0 14 (dDays (zvG N 30) m (zvS N a, s)).2) a (dDays (zvG N 30) m (zvS N a, s)).1) := by
  have hday := hD.2.1.2.2.1
  have e10 : zvS N a 0 10 = N a 10 := zvS_0 (by omega) (by omega)
  rw [e10] at hday
  have hm1 : (m : Int) ≤ n ∧ N a 10 + m ≤ 400 ∧ ((m : Int) = n ∨ N a 10 + m = 400) := by rw [hm]; unfold sMin; split <;> omega
  have hcd := c_drawDays0 d x0 a x1 n y s y2 N ha sep hG n1 m 0 (3, 0, 0) (zvS N a) s hD (by omega) (by omega) (by rw [e10]; omega) (by rw [e10]; omega)
  have e37 : zput (zup N 0 14 s) a (zvS N a) = zup N 0 14 s := by
    have : zvS N a = zvS (zup N 0 14 s) a := by rw [zvS_out (by omega)]
    rw [this, zput_self]
  rw [e37, Int.zero_add] at hcd
  rw [← hcd]
  simp (disch := first | assumption | exact zrm0 | exact zrm1 _ | exact zrm2 _ _ | exact zrm3 _ _ _ | exact zrm4 _ _ _ _ | omega) only [m61, ↓k_dp, ↓k_dn, k_dp, k_dn, k_dT, k_dF, k_ip, k_in, if_true, if_false, ne_eq, not_true_eq_false, not_false_eq_true, Int.reduceAdd, zup_a, zup_e, zup_j, z32_id, k_al0, k_il3, k_pI, k_ic, k_is4, k_il4, k_il2, k_icge, k_al1, k_gI, k_v2r, k_is5, k_il5, k_gR, k_v3, k_inc5, k_goto, k_ifle, k_v3r, k_pop, k_inc4, k_ri, zb0_some, zb1_some, e61_0, e61_1, e61_2, e61_5, e61_6, e61_10, e61_11, e61_14, e61_15, e61_18, e61_21, e61_24, e61_25, e61_26, e61_27, e61_30, e61_33, e61_34, e61_36, e61_38, e61_39, e61_42, e61_45, e61_48, e61_49, e61_50, e61_52, e61_55, e61_58, e61_61, e61_62, e61_65, e61_68, e61_71, e61_72, e61_73, e61_76, e61_77, e61_78, e61_81, e61_84, e61_87, e61_90, e61_91, e61_92, e61_93, e61_96, e61_99, e61_100, e61_103, e61_106, e61_108]
theorem r_drawDaysCall (d : Nat) (z0 n y s y2 : Int) (B : zM) (hG : okG (zrG B)) (hD : okD (zrS B) (zrG B)) (hf : B 199 78 = if sPut (zrS B) (zrG B) = true then 1 else 0) (m : Nat) (hm : (m : Int) = sMin n (400 - B 199 75)) (n0 : 0 ≤ n) (n1 : n ≤ 60) : zEm true (d + 7) 270 [(30, 197, z0), (0, n, y), (0, s, y2)] B = some ((0, (m : Int), 0), rm B (dDays (zrG B) m (zrS B, s)).2 (if m = 0 then B 199 78 else 0) (dDays (zrG B) m (zrS B, s)).1) := by
  have e10 : zrS B 0 10 = B 199 75 := zrS_0t
  have hday := hD.2.1.2.2.1
  rw [e10] at hday
  have hm1 : (m : Int) ≤ n ∧ B 199 75 + m ≤ 400 := by rw [hm]; unfold sMin; split <;> omega
  have hself : rm B s (B 199 78) (zrS B) = zup B 197 40 s := by
    unfold rm
    have e1 : zup (zup B 197 40 s) 199 78 (B 199 78) = zup B 197 40 s := zup_id (zup_a (by omega))
    rw [e1]
    have e2 : zrS B = zrS (zup B 197 40 s) := by rw [zrS_out (Or.inl (by omega))]
    rw [e2, zpR_self]
  have hr := r_drawDays0 d z0 n y s y2 (m : Int) B hG (by omega) m 0 (3, 0, 0) (3, 0, 0) (zrS B) s (B 199 78) hD hf (Int.le_refl _) (by omega) (by rw [e10]; omega)
  rw [hself] at hr
  rw [← hr]
  generalize (m : Int) = v at hm ⊢
  simp (disch := first | assumption | exact zrm0 | exact zrm1 _ | exact zrm2 _ _ | exact zrm3 _ _ _ | exact zrm4 _ _ _ _ | omega) only [m270, ↓k_dp, ↓k_dn, k_dp, k_dn, k_dT, k_dF, k_ip, k_in, if_true, if_false, ne_eq, not_true_eq_false, not_false_eq_true, Int.reduceAdd, zup_a, zup_e, zup_j, z32_id, k_al0, k_il2, k_pI, k_il1, k_ic, k_gR, k_ild, k_ildS, k_ildW, k_isub, k_s2r, k_is3, k_is4, k_il4, k_il3, k_icge, k_v2r, k_ist, k_is5, k_il5, k_is6, k_il6, k_ifne, k_dup2, k_ishl, k_ixor, k_goto, k_icne, k_v3r, k_v5, k_inc5, k_ifle, k_v2, k_v1, k_inc4, k_ri, zb0_some, zb1_some, e270_0, e270_1, e270_2, e270_5, e270_6, e270_9, e270_10, e270_13, e270_15, e270_16, e270_17, e270_20, e270_21, e270_22, e270_26, e270_27, e270_30, e270_31, e270_34, e270_36, e270_37, e270_38, e270_41, e270_42, e270_43, e270_45, e270_47, e270_48, e270_51, e270_52, e270_53, e270_56, e270_57, e270_59, e270_62, e270_64, e270_66, e270_69, e270_70, e270_73, e270_75, e270_76, e270_77, e270_78, e270_80, e270_81, e270_82, e270_83, e270_86, e270_88, e270_89, e270_92, e270_93, e270_95, e270_96, e270_99, e270_102, e270_103, e270_104, e270_106, e270_107, e270_108, e270_111, e270_114, e270_117, e270_118, e270_121, e270_122, e270_123, e270_126, e270_127, e270_128, e270_131, e270_132, e270_133, e270_136, e270_138, e270_139, e270_141, e270_144, e270_147, e270_148, e270_150, e270_153, e270_154, e270_157, e270_160, e270_163, e270_164, r_least, hm.symm]
theorem m38 (ph : Bool) (d : Nat) (a x0 p0 y0 p1 y1 p2 y2 : Int) (M : zM) : zEm ph (d + 1) 38 [(29, a, x0), (0, p0, y0), (0, p1, y1), (0, p2, y2)] M = zEv ph d 38 0 [(29, a, x0), (0, p0, y0), (0, p1, y1), (0, p2, y2), (3, 0, 0), (3, 0, 0)] [] M := rfl
theorem e38_0 (ph : Bool) (d : Nat) (L st : List zV) (M : zM) : zEv ph d 38 0 L st M = zcont ph d 38 (zstep ph (zEm ph d) 4 1 0 [0] L st M) := zEv_step rfl
theorem e38_1 (ph : Bool) (d : Nat) (L st : List zV) (M : zM) : zEv ph d 38 1 L st M = zcont ph d 38 (zstep ph (zEm ph d) 2 2 0 [1] L st M) := zEv_step rfl
theorem e38_2 (ph : Bool) (d : Nat) (L st : List zV) (M : zM) : zEv ph d 38 2 L st M = zcont ph d 38 (zstep ph (zEm ph d) 70 5 47 [2, 1, 29] L st M) := zEv_step rfl
theorem e38_5 (ph : Bool) (d : Nat) (L st : List zV) (M : zM) : zEv ph d 38 5 L st M = zcont ph d 38 (zstep ph (zEm ph d) 40 8 19 [] L st M) := zEv_step rfl
theorem e38_8 (ph : Bool) (d : Nat) (L st : List zV) (M : zM) : zEv ph d 38 8 L st M = zcont ph d 38 (zstep ph (zEm ph d) 2 9 0 [2] L st M) := zEv_step rfl
theorem e38_9 (ph : Bool) (d : Nat) (L st : List zV) (M : zM) : zEv ph d 38 9 L st M = zcont ph d 38 (zstep ph (zEm ph d) 0 10 0 [1] L st M) := zEv_step rfl
theorem e38_10 (ph : Bool) (d : Nat) (L st : List zV) (M : zM) : zEv ph d 38 10 L st M = zcont ph d 38 (zstep ph (zEm ph d) 48 13 19 [] L st M) := zEv_step rfl
theorem e38_13 (ph : Bool) (d : Nat) (L st : List zV) (M : zM) : zEv ph d 38 13 L st M = zcont ph d 38 (zstep ph (zEm ph d) 2 14 0 [2] L st M) := zEv_step rfl
theorem e38_14 (ph : Bool) (d : Nat) (L st : List zV) (M : zM) : zEv ph d 38 14 L st M = zcont ph d 38 (zstep ph (zEm ph d) 0 16 0 [30] L st M) := zEv_step rfl
theorem e38_16 (ph : Bool) (d : Nat) (L st : List zV) (M : zM) : zEv ph d 38 16 L st M = zcont ph d 38 (zstep ph (zEm ph d) 51 19 21 [] L st M) := zEv_step rfl
theorem e38_19 (ph : Bool) (d : Nat) (L st : List zV) (M : zM) : zEv ph d 38 19 L st M = zcont ph d 38 (zstep ph (zEm ph d) 0 20 0 [-1] L st M) := zEv_step rfl
theorem e38_20 (ph : Bool) (d : Nat) (L st : List zV) (M : zM) : zEv ph d 38 20 L st M = zcont ph d 38 (zstep ph (zEm ph d) 80 21 0 [] L st M) := zEv_step rfl
theorem e38_21 (ph : Bool) (d : Nat) (L st : List zV) (M : zM) : zEv ph d 38 21 L st M = zcont ph d 38 (zstep ph (zEm ph d) 0 22 0 [0] L st M) := zEv_step rfl
theorem e38_22 (ph : Bool) (d : Nat) (L st : List zV) (M : zM) : zEv ph d 38 22 L st M = zcont ph d 38 (zstep ph (zEm ph d) 5 24 0 [4] L st M) := zEv_step rfl
theorem e38_24 (ph : Bool) (d : Nat) (L st : List zV) (M : zM) : zEv ph d 38 24 L st M = zcont ph d 38 (zstep ph (zEm ph d) 0 25 0 [0] L st M) := zEv_step rfl
theorem e38_25 (ph : Bool) (d : Nat) (L st : List zV) (M : zM) : zEv ph d 38 25 L st M = zcont ph d 38 (zstep ph (zEm ph d) 5 27 0 [5] L st M) := zEv_step rfl
theorem e38_27 (ph : Bool) (d : Nat) (L st : List zV) (M : zM) : zEv ph d 38 27 L st M = zcont ph d 38 (zstep ph (zEm ph d) 2 29 0 [5] L st M) := zEv_step rfl
theorem e38_29 (ph : Bool) (d : Nat) (L st : List zV) (M : zM) : zEv ph d 38 29 L st M = zcont ph d 38 (zstep ph (zEm ph d) 2 30 0 [2] L st M) := zEv_step rfl
theorem e38_30 (ph : Bool) (d : Nat) (L st : List zV) (M : zM) : zEv ph d 38 30 L st M = zcont ph d 38 (zstep ph (zEm ph d) 49 33 81 [] L st M) := zEv_step rfl
theorem e38_33 (ph : Bool) (d : Nat) (L st : List zV) (M : zM) : zEv ph d 38 33 L st M = zcont ph d 38 (zstep ph (zEm ph d) 4 34 0 [0] L st M) := zEv_step rfl
theorem e38_34 (ph : Bool) (d : Nat) (L st : List zV) (M : zM) : zEv ph d 38 34 L st M = zcont ph d 38 (zstep ph (zEm ph d) 62 37 0 [29, 8, 68, 26, 0] L st M) := zEv_step rfl
theorem e38_37 (ph : Bool) (d : Nat) (L st : List zV) (M : zM) : zEv ph d 38 37 L st M = zcont ph d 38 (zstep ph (zEm ph d) 4 38 0 [0] L st M) := zEv_step rfl
theorem e38_38 (ph : Bool) (d : Nat) (L st : List zV) (M : zM) : zEv ph d 38 38 L st M = zcont ph d 38 (zstep ph (zEm ph d) 62 41 0 [29, 3, 37, 26, 0] L st M) := zEv_step rfl
theorem e38_41 (ph : Bool) (d : Nat) (L st : List zV) (M : zM) : zEv ph d 38 41 L st M = zcont ph d 38 (zstep ph (zEm ph d) 70 44 113 [2, 0, 26] L st M) := zEv_step rfl
theorem e38_44 (ph : Bool) (d : Nat) (L st : List zV) (M : zM) : zEv ph d 38 44 L st M = zcont ph d 38 (zstep ph (zEm ph d) 4 45 0 [0] L st M) := zEv_step rfl
theorem e38_45 (ph : Bool) (d : Nat) (L st : List zV) (M : zM) : zEv ph d 38 45 L st M = zcont ph d 38 (zstep ph (zEm ph d) 4 46 0 [0] L st M) := zEv_step rfl
theorem e38_46 (ph : Bool) (d : Nat) (L st : List zV) (M : zM) : zEv ph d 38 46 L st M = zcont ph d 38 (zstep ph (zEm ph d) 62 49 0 [29, 8, 68, 26, 0] L st M) := zEv_step rfl
theorem e38_49 (ph : Bool) (d : Nat) (L st : List zV) (M : zM) : zEv ph d 38 49 L st M = zcont ph d 38 (zstep ph (zEm ph d) 0 51 0 [20] L st M) := zEv_step rfl
theorem e38_51 (ph : Bool) (d : Nat) (L st : List zV) (M : zM) : zEv ph d 38 51 L st M = zcont ph d 38 (zstep ph (zEm ph d) 2 52 0 [3] L st M) := zEv_step rfl
theorem e38_52 (ph : Bool) (d : Nat) (L st : List zV) (M : zM) : zEv ph d 38 52 L st M = zcont ph d 38 (zstep ph (zEm ph d) 2 54 0 [5] L st M) := zEv_step rfl
theorem e38_54 (ph : Bool) (d : Nat) (L st : List zV) (M : zM) : zEv ph d 38 54 L st M = zcont ph d 38 (zstep ph (zEm ph d) 10 55 0 [] L st M) := zEv_step rfl
theorem e38_55 (ph : Bool) (d : Nat) (L st : List zV) (M : zM) : zEv ph d 38 55 L st M = zcont ph d 38 (zstep ph (zEm ph d) 70 58 61 [4, 1, 29] L st M) := zEv_step rfl
theorem e38_58 (ph : Bool) (d : Nat) (L st : List zV) (M : zM) : zEv ph d 38 58 L st M = zcont ph d 38 (zstep ph (zEm ph d) 38 59 0 [] L st M) := zEv_step rfl
theorem e38_59 (ph : Bool) (d : Nat) (L st : List zV) (M : zM) : zEv ph d 38 59 L st M = zcont ph d 38 (zstep ph (zEm ph d) 4 60 0 [0] L st M) := zEv_step rfl
theorem e38_60 (ph : Bool) (d : Nat) (L st : List zV) (M : zM) : zEv ph d 38 60 L st M = zcont ph d 38 (zstep ph (zEm ph d) 62 63 0 [29, 8, 68, 26, 0] L st M) := zEv_step rfl
theorem e38_63 (ph : Bool) (d : Nat) (L st : List zV) (M : zM) : zEv ph d 38 63 L st M = zcont ph d 38 (zstep ph (zEm ph d) 62 66 0 [26, 4, 5, 10, 5] L st M) := zEv_step rfl
theorem e38_66 (ph : Bool) (d : Nat) (L st : List zV) (M : zM) : zEv ph d 38 66 L st M = zcont ph d 38 (zstep ph (zEm ph d) 2 67 0 [1] L st M) := zEv_step rfl
theorem e38_67 (ph : Bool) (d : Nat) (L st : List zV) (M : zM) : zEv ph d 38 67 L st M = zcont ph d 38 (zstep ph (zEm ph d) 85 68 0 [] L st M) := zEv_step rfl
theorem e38_68 (ph : Bool) (d : Nat) (L st : List zV) (M : zM) : zEv ph d 38 68 L st M = zcont ph d 38 (zstep ph (zEm ph d) 0 69 0 [1] L st M) := zEv_step rfl
theorem e38_69 (ph : Bool) (d : Nat) (L st : List zV) (M : zM) : zEv ph d 38 69 L st M = zcont ph d 38 (zstep ph (zEm ph d) 47 72 75 [] L st M) := zEv_step rfl
theorem e38_72 (ph : Bool) (d : Nat) (L st : List zV) (M : zM) : zEv ph d 38 72 L st M = zcont ph d 38 (zstep ph (zEm ph d) 8 75 0 [4, 1] L st M) := zEv_step rfl
theorem e38_75 (ph : Bool) (d : Nat) (L st : List zV) (M : zM) : zEv ph d 38 75 L st M = zcont ph d 38 (zstep ph (zEm ph d) 8 78 0 [5, 1] L st M) := zEv_step rfl
theorem e38_78 (ph : Bool) (d : Nat) (L st : List zV) (M : zM) : zEv ph d 38 78 L st M = zcont ph d 38 (zstep ph (zEm ph d) 52 81 27 [] L st M) := zEv_step rfl
theorem e38_81 (ph : Bool) (d : Nat) (L st : List zV) (M : zM) : zEv ph d 38 81 L st M = zcont ph d 38 (zstep ph (zEm ph d) 2 83 0 [4] L st M) := zEv_step rfl
theorem e38_83 (ph : Bool) (d : Nat) (L st : List zV) (M : zM) : zEv ph d 38 83 L st M = zcont ph d 38 (zstep ph (zEm ph d) 80 84 0 [] L st M) := zEv_step rfl
theorem m274 (ph : Bool) (d : Nat) (a x0 p0 y0 p1 y1 p2 y2 : Int) (M : zM) : zEm ph (d + 1) 274 [(30, a, x0), (0, p0, y0), (0, p1, y1), (0, p2, y2)] M = zEv ph d 274 0 [(30, a, x0), (0, p0, y0), (0, p1, y1), (0, p2, y2), (3, 0, 0), (3, 0, 0)] [] M := rfl
theorem e274_0 (ph : Bool) (d : Nat) (L st : List zV) (M : zM) : zEv ph d 274 0 L st M = zcont ph d 274 (zstep ph (zEm ph d) 4 1 0 [0] L st M) := zEv_step rfl
theorem e274_1 (ph : Bool) (d : Nat) (L st : List zV) (M : zM) : zEv ph d 274 1 L st M = zcont ph d 274 (zstep ph (zEm ph d) 0 2 0 [0] L st M) := zEv_step rfl
theorem e274_2 (ph : Bool) (d : Nat) (L st : List zV) (M : zM) : zEv ph d 274 2 L st M = zcont ph d 274 (zstep ph (zEm ph d) 65 5 0 [30, 0] L st M) := zEv_step rfl
theorem e274_5 (ph : Bool) (d : Nat) (L st : List zV) (M : zM) : zEv ph d 274 5 L st M = zcont ph d 274 (zstep ph (zEm ph d) 4 6 0 [0] L st M) := zEv_step rfl
theorem e274_6 (ph : Bool) (d : Nat) (L st : List zV) (M : zM) : zEv ph d 274 6 L st M = zcont ph d 274 (zstep ph (zEm ph d) 2 7 0 [1] L st M) := zEv_step rfl
theorem e274_7 (ph : Bool) (d : Nat) (L st : List zV) (M : zM) : zEv ph d 274 7 L st M = zcont ph d 274 (zstep ph (zEm ph d) 70 10 206 [2, 1, 30] L st M) := zEv_step rfl
theorem e274_10 (ph : Bool) (d : Nat) (L st : List zV) (M : zM) : zEv ph d 274 10 L st M = zcont ph d 274 (zstep ph (zEm ph d) 40 13 23 [] L st M) := zEv_step rfl
theorem e274_13 (ph : Bool) (d : Nat) (L st : List zV) (M : zM) : zEv ph d 274 13 L st M = zcont ph d 274 (zstep ph (zEm ph d) 2 14 0 [2] L st M) := zEv_step rfl
theorem e274_14 (ph : Bool) (d : Nat) (L st : List zV) (M : zM) : zEv ph d 274 14 L st M = zcont ph d 274 (zstep ph (zEm ph d) 0 15 0 [1] L st M) := zEv_step rfl
theorem e274_15 (ph : Bool) (d : Nat) (L st : List zV) (M : zM) : zEv ph d 274 15 L st M = zcont ph d 274 (zstep ph (zEm ph d) 0 17 0 [30] L st M) := zEv_step rfl
theorem e274_17 (ph : Bool) (d : Nat) (L st : List zV) (M : zM) : zEv ph d 274 17 L st M = zcont ph d 274 (zstep ph (zEm ph d) 70 20 168 [3, 1, -1] L st M) := zEv_step rfl
theorem e274_20 (ph : Bool) (d : Nat) (L st : List zV) (M : zM) : zEv ph d 274 20 L st M = zcont ph d 274 (zstep ph (zEm ph d) 41 23 25 [] L st M) := zEv_step rfl
theorem e274_23 (ph : Bool) (d : Nat) (L st : List zV) (M : zM) : zEv ph d 274 23 L st M = zcont ph d 274 (zstep ph (zEm ph d) 0 24 0 [-1] L st M) := zEv_step rfl
theorem e274_24 (ph : Bool) (d : Nat) (L st : List zV) (M : zM) : zEv ph d 274 24 L st M = zcont ph d 274 (zstep ph (zEm ph d) 80 25 0 [] L st M) := zEv_step rfl
theorem e274_25 (ph : Bool) (d : Nat) (L st : List zV) (M : zM) : zEv ph d 274 25 L st M = zcont ph d 274 (zstep ph (zEm ph d) 4 26 0 [0] L st M) := zEv_step rfl
theorem e274_26 (ph : Bool) (d : Nat) (L st : List zV) (M : zM) : zEv ph d 274 26 L st M = zcont ph d 274 (zstep ph (zEm ph d) 70 29 272 [1, 0, 30] L st M) := zEv_step rfl
theorem e274_29 (ph : Bool) (d : Nat) (L st : List zV) (M : zM) : zEv ph d 274 29 L st M = zcont ph d 274 (zstep ph (zEm ph d) 0 30 0 [0] L st M) := zEv_step rfl
theorem e274_30 (ph : Bool) (d : Nat) (L st : List zV) (M : zM) : zEv ph d 274 30 L st M = zcont ph d 274 (zstep ph (zEm ph d) 5 32 0 [4] L st M) := zEv_step rfl
theorem e274_32 (ph : Bool) (d : Nat) (L st : List zV) (M : zM) : zEv ph d 274 32 L st M = zcont ph d 274 (zstep ph (zEm ph d) 0 33 0 [0] L st M) := zEv_step rfl
theorem e274_33 (ph : Bool) (d : Nat) (L st : List zV) (M : zM) : zEv ph d 274 33 L st M = zcont ph d 274 (zstep ph (zEm ph d) 5 35 0 [5] L st M) := zEv_step rfl
theorem e274_35 (ph : Bool) (d : Nat) (L st : List zV) (M : zM) : zEv ph d 274 35 L st M = zcont ph d 274 (zstep ph (zEm ph d) 2 37 0 [5] L st M) := zEv_step rfl
theorem e274_37 (ph : Bool) (d : Nat) (L st : List zV) (M : zM) : zEv ph d 274 37 L st M = zcont ph d 274 (zstep ph (zEm ph d) 2 38 0 [2] L st M) := zEv_step rfl
theorem e274_38 (ph : Bool) (d : Nat) (L st : List zV) (M : zM) : zEv ph d 274 38 L st M = zcont ph d 274 (zstep ph (zEm ph d) 49 41 78 [] L st M) := zEv_step rfl
theorem e274_41 (ph : Bool) (d : Nat) (L st : List zV) (M : zM) : zEv ph d 274 41 L st M = zcont ph d 274 (zstep ph (zEm ph d) 4 42 0 [0] L st M) := zEv_step rfl
theorem e274_42 (ph : Bool) (d : Nat) (L st : List zV) (M : zM) : zEv ph d 274 42 L st M = zcont ph d 274 (zstep ph (zEm ph d) 0 44 0 [20] L st M) := zEv_step rfl
theorem e274_44 (ph : Bool) (d : Nat) (L st : List zV) (M : zM) : zEv ph d 274 44 L st M = zcont ph d 274 (zstep ph (zEm ph d) 2 45 0 [3] L st M) := zEv_step rfl
theorem e274_45 (ph : Bool) (d : Nat) (L st : List zV) (M : zM) : zEv ph d 274 45 L st M = zcont ph d 274 (zstep ph (zEm ph d) 2 47 0 [5] L st M) := zEv_step rfl
theorem e274_47 (ph : Bool) (d : Nat) (L st : List zV) (M : zM) : zEv ph d 274 47 L st M = zcont ph d 274 (zstep ph (zEm ph d) 10 48 0 [] L st M) := zEv_step rfl
theorem e274_48 (ph : Bool) (d : Nat) (L st : List zV) (M : zM) : zEv ph d 274 48 L st M = zcont ph d 274 (zstep ph (zEm ph d) 70 51 270 [3, 1, 30] L st M) := zEv_step rfl
theorem e274_51 (ph : Bool) (d : Nat) (L st : List zV) (M : zM) : zEv ph d 274 51 L st M = zcont ph d 274 (zstep ph (zEm ph d) 38 52 0 [] L st M) := zEv_step rfl
theorem e274_52 (ph : Bool) (d : Nat) (L st : List zV) (M : zM) : zEv ph d 274 52 L st M = zcont ph d 274 (zstep ph (zEm ph d) 4 53 0 [0] L st M) := zEv_step rfl
theorem e274_53 (ph : Bool) (d : Nat) (L st : List zV) (M : zM) : zEv ph d 274 53 L st M = zcont ph d 274 (zstep ph (zEm ph d) 62 56 0 [30, 14, 2, 10, 368] L st M) := zEv_step rfl
theorem e274_56 (ph : Bool) (d : Nat) (L st : List zV) (M : zM) : zEv ph d 274 56 L st M = zcont ph d 274 (zstep ph (zEm ph d) 0 58 0 [111] L st M) := zEv_step rfl
theorem e274_58 (ph : Bool) (d : Nat) (L st : List zV) (M : zM) : zEv ph d 274 58 L st M = zcont ph d 274 (zstep ph (zEm ph d) 2 59 0 [1] L st M) := zEv_step rfl
theorem e274_59 (ph : Bool) (d : Nat) (L st : List zV) (M : zM) : zEv ph d 274 59 L st M = zcont ph d 274 (zstep ph (zEm ph d) 10 60 0 [] L st M) := zEv_step rfl
theorem e274_60 (ph : Bool) (d : Nat) (L st : List zV) (M : zM) : zEv ph d 274 60 L st M = zcont ph d 274 (zstep ph (zEm ph d) 85 61 0 [] L st M) := zEv_step rfl
theorem e274_61 (ph : Bool) (d : Nat) (L st : List zV) (M : zM) : zEv ph d 274 61 L st M = zcont ph d 274 (zstep ph (zEm ph d) 0 62 0 [1] L st M) := zEv_step rfl
theorem e274_62 (ph : Bool) (d : Nat) (L st : List zV) (M : zM) : zEv ph d 274 62 L st M = zcont ph d 274 (zstep ph (zEm ph d) 47 65 68 [] L st M) := zEv_step rfl
theorem e274_65 (ph : Bool) (d : Nat) (L st : List zV) (M : zM) : zEv ph d 274 65 L st M = zcont ph d 274 (zstep ph (zEm ph d) 8 68 0 [4, 1] L st M) := zEv_step rfl
theorem e274_68 (ph : Bool) (d : Nat) (L st : List zV) (M : zM) : zEv ph d 274 68 L st M = zcont ph d 274 (zstep ph (zEm ph d) 4 69 0 [0] L st M) := zEv_step rfl
theorem e274_69 (ph : Bool) (d : Nat) (L st : List zV) (M : zM) : zEv ph d 274 69 L st M = zcont ph d 274 (zstep ph (zEm ph d) 70 72 273 [1, 0, 30] L st M) := zEv_step rfl
theorem e274_72 (ph : Bool) (d : Nat) (L st : List zV) (M : zM) : zEv ph d 274 72 L st M = zcont ph d 274 (zstep ph (zEm ph d) 8 75 0 [5, 1] L st M) := zEv_step rfl
theorem e274_75 (ph : Bool) (d : Nat) (L st : List zV) (M : zM) : zEv ph d 274 75 L st M = zcont ph d 274 (zstep ph (zEm ph d) 52 78 35 [] L st M) := zEv_step rfl
theorem e274_78 (ph : Bool) (d : Nat) (L st : List zV) (M : zM) : zEv ph d 274 78 L st M = zcont ph d 274 (zstep ph (zEm ph d) 2 80 0 [4] L st M) := zEv_step rfl
theorem e274_80 (ph : Bool) (d : Nat) (L st : List zV) (M : zM) : zEv ph d 274 80 L st M = zcont ph d 274 (zstep ph (zEm ph d) 80 81 0 [] L st M) := zEv_step rfl
theorem m272 (ph : Bool) (d : Nat) (a x0 : Int) (M : zM) : zEm ph (d + 1) 272 [(30, a, x0)] M = zEv ph d 272 0 [(30, a, x0), (3, 0, 0)] [] M := rfl
theorem e272_0 (ph : Bool) (d : Nat) (L st : List zV) (M : zM) : zEv ph d 272 0 L st M = zcont ph d 272 (zstep ph (zEm ph d) 0 1 0 [0] L st M) := zEv_step rfl
theorem e272_1 (ph : Bool) (d : Nat) (L st : List zV) (M : zM) : zEv ph d 272 1 L st M = zcont ph d 272 (zstep ph (zEm ph d) 5 2 0 [1] L st M) := zEv_step rfl
theorem e272_2 (ph : Bool) (d : Nat) (L st : List zV) (M : zM) : zEv ph d 272 2 L st M = zcont ph d 272 (zstep ph (zEm ph d) 2 3 0 [1] L st M) := zEv_step rfl
theorem e272_3 (ph : Bool) (d : Nat) (L st : List zV) (M : zM) : zEv ph d 272 3 L st M = zcont ph d 272 (zstep ph (zEm ph d) 0 5 0 [51] L st M) := zEv_step rfl
theorem e272_5 (ph : Bool) (d : Nat) (L st : List zV) (M : zM) : zEv ph d 272 5 L st M = zcont ph d 272 (zstep ph (zEm ph d) 49 8 29 [] L st M) := zEv_step rfl
theorem e272_8 (ph : Bool) (d : Nat) (L st : List zV) (M : zM) : zEv ph d 272 8 L st M = zcont ph d 272 (zstep ph (zEm ph d) 4 9 0 [0] L st M) := zEv_step rfl
theorem e272_9 (ph : Bool) (d : Nat) (L st : List zV) (M : zM) : zEv ph d 272 9 L st M = zcont ph d 272 (zstep ph (zEm ph d) 62 12 0 [30, 18, 6, 10, 51] L st M) := zEv_step rfl
theorem e272_12 (ph : Bool) (d : Nat) (L st : List zV) (M : zM) : zEv ph d 272 12 L st M = zcont ph d 272 (zstep ph (zEm ph d) 2 13 0 [1] L st M) := zEv_step rfl
theorem e272_13 (ph : Bool) (d : Nat) (L st : List zV) (M : zM) : zEv ph d 272 13 L st M = zcont ph d 272 (zstep ph (zEm ph d) 4 14 0 [0] L st M) := zEv_step rfl
theorem e272_14 (ph : Bool) (d : Nat) (L st : List zV) (M : zM) : zEv ph d 272 14 L st M = zcont ph d 272 (zstep ph (zEm ph d) 62 17 0 [30, 14, 2, 10, 368] L st M) := zEv_step rfl
theorem e272_17 (ph : Bool) (d : Nat) (L st : List zV) (M : zM) : zEv ph d 272 17 L st M = zcont ph d 272 (zstep ph (zEm ph d) 0 19 0 [75] L st M) := zEv_step rfl
theorem e272_19 (ph : Bool) (d : Nat) (L st : List zV) (M : zM) : zEv ph d 272 19 L st M = zcont ph d 272 (zstep ph (zEm ph d) 2 20 0 [1] L st M) := zEv_step rfl
theorem e272_20 (ph : Bool) (d : Nat) (L st : List zV) (M : zM) : zEv ph d 272 20 L st M = zcont ph d 272 (zstep ph (zEm ph d) 10 21 0 [] L st M) := zEv_step rfl
theorem e272_21 (ph : Bool) (d : Nat) (L st : List zV) (M : zM) : zEv ph d 272 21 L st M = zcont ph d 272 (zstep ph (zEm ph d) 85 22 0 [] L st M) := zEv_step rfl
theorem e272_22 (ph : Bool) (d : Nat) (L st : List zV) (M : zM) : zEv ph d 272 22 L st M = zcont ph d 272 (zstep ph (zEm ph d) 89 23 0 [] L st M) := zEv_step rfl
theorem e272_23 (ph : Bool) (d : Nat) (L st : List zV) (M : zM) : zEv ph d 272 23 L st M = zcont ph d 272 (zstep ph (zEm ph d) 8 26 0 [1, 1] L st M) := zEv_step rfl
theorem e272_26 (ph : Bool) (d : Nat) (L st : List zV) (M : zM) : zEv ph d 272 26 L st M = zcont ph d 272 (zstep ph (zEm ph d) 52 29 2 [] L st M) := zEv_step rfl
theorem e272_29 (ph : Bool) (d : Nat) (L st : List zV) (M : zM) : zEv ph d 272 29 L st M = zcont ph d 272 (zstep ph (zEm ph d) 83 30 0 [] L st M) := zEv_step rfl
theorem m273 (ph : Bool) (d : Nat) (a x0 : Int) (M : zM) : zEm ph (d + 1) 273 [(30, a, x0)] M = zEv ph d 273 0 [(30, a, x0), (3, 0, 0)] [] M := rfl
theorem e273_0 (ph : Bool) (d : Nat) (L st : List zV) (M : zM) : zEv ph d 273 0 L st M = zcont ph d 273 (zstep ph (zEm ph d) 0 1 0 [0] L st M) := zEv_step rfl
theorem e273_1 (ph : Bool) (d : Nat) (L st : List zV) (M : zM) : zEv ph d 273 1 L st M = zcont ph d 273 (zstep ph (zEm ph d) 5 2 0 [1] L st M) := zEv_step rfl
theorem e273_2 (ph : Bool) (d : Nat) (L st : List zV) (M : zM) : zEv ph d 273 2 L st M = zcont ph d 273 (zstep ph (zEm ph d) 2 3 0 [1] L st M) := zEv_step rfl
theorem e273_3 (ph : Bool) (d : Nat) (L st : List zV) (M : zM) : zEv ph d 273 3 L st M = zcont ph d 273 (zstep ph (zEm ph d) 0 5 0 [51] L st M) := zEv_step rfl
theorem e273_5 (ph : Bool) (d : Nat) (L st : List zV) (M : zM) : zEv ph d 273 5 L st M = zcont ph d 273 (zstep ph (zEm ph d) 49 8 29 [] L st M) := zEv_step rfl
theorem e273_8 (ph : Bool) (d : Nat) (L st : List zV) (M : zM) : zEv ph d 273 8 L st M = zcont ph d 273 (zstep ph (zEm ph d) 4 9 0 [0] L st M) := zEv_step rfl
theorem e273_9 (ph : Bool) (d : Nat) (L st : List zV) (M : zM) : zEv ph d 273 9 L st M = zcont ph d 273 (zstep ph (zEm ph d) 62 12 0 [30, 14, 2, 10, 368] L st M) := zEv_step rfl
theorem e273_12 (ph : Bool) (d : Nat) (L st : List zV) (M : zM) : zEv ph d 273 12 L st M = zcont ph d 273 (zstep ph (zEm ph d) 0 14 0 [75] L st M) := zEv_step rfl
theorem e273_14 (ph : Bool) (d : Nat) (L st : List zV) (M : zM) : zEv ph d 273 14 L st M = zcont ph d 273 (zstep ph (zEm ph d) 2 15 0 [1] L st M) := zEv_step rfl
theorem e273_15 (ph : Bool) (d : Nat) (L st : List zV) (M : zM) : zEv ph d 273 15 L st M = zcont ph d 273 (zstep ph (zEm ph d) 10 16 0 [] L st M) := zEv_step rfl
theorem e273_16 (ph : Bool) (d : Nat) (L st : List zV) (M : zM) : zEv ph d 273 16 L st M = zcont ph d 273 (zstep ph (zEm ph d) 4 17 0 [0] L st M) := zEv_step rfl
theorem e273_17 (ph : Bool) (d : Nat) (L st : List zV) (M : zM) : zEv ph d 273 17 L st M = zcont ph d 273 (zstep ph (zEm ph d) 62 20 0 [30, 18, 6, 10, 51] L st M) := zEv_step rfl
theorem e273_20 (ph : Bool) (d : Nat) (L st : List zV) (M : zM) : zEv ph d 273 20 L st M = zcont ph d 273 (zstep ph (zEm ph d) 2 21 0 [1] L st M) := zEv_step rfl
theorem e273_21 (ph : Bool) (d : Nat) (L st : List zV) (M : zM) : zEv ph d 273 21 L st M = zcont ph d 273 (zstep ph (zEm ph d) 85 22 0 [] L st M) := zEv_step rfl
theorem e273_22 (ph : Bool) (d : Nat) (L st : List zV) (M : zM) : zEv ph d 273 22 L st M = zcont ph d 273 (zstep ph (zEm ph d) 89 23 0 [] L st M) := zEv_step rfl
theorem e273_23 (ph : Bool) (d : Nat) (L st : List zV) (M : zM) : zEv ph d 273 23 L st M = zcont ph d 273 (zstep ph (zEm ph d) 8 26 0 [1, 1] L st M) := zEv_step rfl
theorem e273_26 (ph : Bool) (d : Nat) (L st : List zV) (M : zM) : zEv ph d 273 26 L st M = zcont ph d 273 (zstep ph (zEm ph d) 52 29 2 [] L st M) := zEv_step rfl
theorem e273_29 (ph : Bool) (d : Nat) (L st : List zV) (M : zM) : zEv ph d 273 29 L st M = zcont ph d 273 (zstep ph (zEm ph d) 83 30 0 [] L st M) := zEv_step rfl
theorem r_layAside (d : Nat) (z0 : Int) (M : zM) : zEm true (d + 1) 272 [(30, 197, z0)] M = some ((98, 0, 0), zcpy M 199 75 203 0 51) := by
  have hl := zfor (ph := true) (d := d) (j := 272) (pc := 2) (fun k U => zup U 203 (0 + k) (U 199 (75 + k))) (fun k _ => 0 ≤ k) (fun k _ => [(30, 197, z0), (0, k, 0)]) (fun U => U) 51
    (fun k b hk hP => ⟨by
      rw [e272_2]
      simp (disch := first | assumption | exact zrm0 | exact zrm1 _ | exact zrm2 _ _ | exact zrm3 _ _ _ | exact zrm4 _ _ _ _ | omega) only [m272, ↓k_dp, ↓k_dn, k_dp, k_dn, k_dT, k_dF, k_ip, k_in, if_true, if_false, ne_eq, not_true_eq_false, not_false_eq_true, Int.reduceAdd, zup_a, zup_e, zup_j, z32_id, k_ic, k_is1, k_il1, k_icge, k_al0, k_gR, k_iadd, k_ild, k_ildS, k_ildW, k_ist, k_inc1, k_goto, k_rv, e272_0, e272_1, e272_3, e272_5, e272_8, e272_9, e272_12, e272_13, e272_14, e272_17, e272_19, e272_20, e272_21, e272_22, e272_23, e272_26, e272_29, Int.zero_add], by omega⟩) 51 0 M (by omega) (Int.le_refl _)
  rw [zit_cpy (by omega) (Or.inl (by omega))] at hl
  simp (disch := first | assumption | exact zrm0 | exact zrm1 _ | exact zrm2 _ _ | exact zrm3 _ _ _ | exact zrm4 _ _ _ _ | omega) only [m272, ↓k_dp, ↓k_dn, k_dp, k_dn, k_dT, k_dF, k_ip, k_in, if_true, if_false, ne_eq, not_true_eq_false, not_false_eq_true, Int.reduceAdd, zup_a, zup_e, zup_j, z32_id, k_ic, k_is1, k_il1, k_icge, k_al0, k_gR, k_iadd, k_ild, k_ildS, k_ildW, k_ist, k_inc1, k_goto, k_rv, e272_0, e272_1, e272_3, e272_5, e272_8, e272_9, e272_12, e272_13, e272_14, e272_17, e272_19, e272_20, e272_21, e272_22, e272_23, e272_26, e272_29]
  rw [hl.1]
  simp (disch := first | assumption | exact zrm0 | exact zrm1 _ | exact zrm2 _ _ | exact zrm3 _ _ _ | exact zrm4 _ _ _ _ | omega) only [m272, ↓k_dp, ↓k_dn, k_dp, k_dn, k_dT, k_dF, k_ip, k_in, if_true, if_false, ne_eq, not_true_eq_false, not_false_eq_true, Int.reduceAdd, zup_a, zup_e, zup_j, z32_id, k_ic, k_is1, k_il1, k_icge, k_al0, k_gR, k_iadd, k_ild, k_ildS, k_ildW, k_ist, k_inc1, k_goto, k_rv, e272_0, e272_1, e272_2, e272_3, e272_5, e272_8, e272_9, e272_12, e272_13, e272_14, e272_17, e272_19, e272_20, e272_21, e272_22, e272_23, e272_26, e272_29]
  rfl
theorem r_takeBack (d : Nat) (z0 : Int) (M : zM) : zEm true (d + 1) 273 [(30, 197, z0)] M = some ((98, 0, 0), zcpy M 203 0 199 75 51) := by
  have hl := zfor (ph := true) (d := d) (j := 273) (pc := 2) (fun k U => zup U 199 (75 + k) (U 203 (0 + k))) (fun k _ => 0 ≤ k) (fun k _ => [(30, 197, z0), (0, k, 0)]) (fun U => U) 51
    (fun k b hk hP => ⟨by
      rw [e273_2]
      simp (disch := first | assumption | exact zrm0 | exact zrm1 _ | exact zrm2 _ _ | exact zrm3 _ _ _ | exact zrm4 _ _ _ _ | omega) only [m273, ↓k_dp, ↓k_dn, k_dp, k_dn, k_dT, k_dF, k_ip, k_in, if_true, if_false, ne_eq, not_true_eq_false, not_false_eq_true, Int.reduceAdd, zup_a, zup_e, zup_j, z32_id, k_ic, k_is1, k_il1, k_icge, k_al0, k_gR, k_iadd, k_ild, k_ildS, k_ildW, k_ist, k_inc1, k_goto, k_rv, e273_0, e273_1, e273_3, e273_5, e273_8, e273_9, e273_12, e273_14, e273_15, e273_16, e273_17, e273_20, e273_21, e273_22, e273_23, e273_26, e273_29, Int.zero_add], by omega⟩) 51 0 M (by omega) (Int.le_refl _)
  rw [zit_cpy (by omega) (Or.inl (by omega))] at hl
  simp (disch := first | assumption | exact zrm0 | exact zrm1 _ | exact zrm2 _ _ | exact zrm3 _ _ _ | exact zrm4 _ _ _ _ | omega) only [m273, ↓k_dp, ↓k_dn, k_dp, k_dn, k_dT, k_dF, k_ip, k_in, if_true, if_false, ne_eq, not_true_eq_false, not_false_eq_true, Int.reduceAdd, zup_a, zup_e, zup_j, z32_id, k_ic, k_is1, k_il1, k_icge, k_al0, k_gR, k_iadd, k_ild, k_ildS, k_ildW, k_ist, k_inc1, k_goto, k_rv, e273_0, e273_1, e273_3, e273_5, e273_8, e273_9, e273_12, e273_14, e273_15, e273_16, e273_17, e273_20, e273_21, e273_22, e273_23, e273_26, e273_29]
  rw [hl.1]
  simp (disch := first | assumption | exact zrm0 | exact zrm1 _ | exact zrm2 _ _ | exact zrm3 _ _ _ | exact zrm4 _ _ _ _ | omega) only [m273, ↓k_dp, ↓k_dn, k_dp, k_dn, k_dT, k_dF, k_ip, k_in, if_true, if_false, ne_eq, not_true_eq_false, not_false_eq_true, Int.reduceAdd, zup_a, zup_e, zup_j, z32_id, k_ic, k_is1, k_il1, k_icge, k_al0, k_gR, k_iadd, k_ild, k_ildS, k_ildW, k_ist, k_inc1, k_goto, k_rv, e273_0, e273_1, e273_2, e273_3, e273_5, e273_8, e273_9, e273_12, e273_14, e273_15, e273_16, e273_17, e273_20, e273_21, e273_22, e273_23, e273_26, e273_29]
  rfl
def sOddF (S G : zM) (q x : Int) (m : Nat) (k v : Int) : Int := if (dDays G m (S, z32 (x + k))).1 5 q = 1 then z32 (v + 1) else v
theorem c_odds0 (d : Nat) (x0 q y n y2 x y3 : Int) (M : zM) (hG : okG (zvG M 30)) (hD : okD (zvS M 37) (zvG M 30)) (m : Nat) (hm : (m : Int) = sMin 20 (400 - M 37 10)) (q0 : 0 ≤ q) (q1 : q < 5) (n0 : 0 ≤ n) (n1 : n ≤ 30) : ∃ M', zEv true (d + 7) 38 27 [(29, 0, x0), (0, q, y), (0, n, y2), (0, x, y3), (0, 0, 0), (0, 0, 0)] [] M = some ((0, zit (sOddF (zvS M 37) (zvG M 30) q x m) n.toNat 0 0, 0), M') ∧ ∀ a b, ¬ (68 ≤ a ∧ a ≤ 76) → ¬ (a = 0 ∧ b = 14) → M' a b = M a b := by
  have hl := zfor (α := Int × zM) (ph := true) (d := d + 7) (j := 38) (pc := 27) (fun k p => (sOddF (zvS M 37) (zvG M 30) q x m k p.1, zput (zup (cpS p.2 68 37) 0 14 (dDays (zvG M 30) m (zvS M 37, z32 (x + k))).2) 68 (dDays (zvG M 30) m (zvS M 37, z32 (x + k))).1)) (fun k p => 0 ≤ k ∧ ∀ a b, ¬ (68 ≤ a ∧ a ≤ 76) → ¬ (a = 0 ∧ b = 14) → p.2 a b = M a b) (fun k p => [(29, 0, x0), (0, q, y), (0, n, y2), (0, x, y3), (0, p.1, 0), (0, k, 0)]) (fun p => p.2) n
    (fun k p hk hp => by
      obtain ⟨v, N⟩ := p
      obtain ⟨k0, hN⟩ := hp
      dsimp only at hN ⊢
      have eG : zvG (cpS N 68 37) 30 = zvG M 30 := by rw [zvG_cpo (by omega)]; exact zvG_eq (fun a b h1 h2 => hN a b (by omega) (by omega))
      have eS : zvS (cpS N 68 37) 68 = zvS M 37 := by rw [zvS_cp (by omega) (by omega)]; exact zvS_eq (fun a b h1 h2 => hN a b (by omega) (by omega))
      have e10 : cpS N 68 37 68 10 = M 37 10 := by
        have h := congrFun (congrFun eS 0) 10
        rwa [zvS_0 (by omega) (by omega), zvS_0 (by omega) (by omega)] at h
      have hc := c_drawDaysCall (d + 1) x0 68 0 20 0 (z32 (x + k)) 0 (cpS N 68 37) (by omega) (by omega) (by rw [eG]; exact hG) (by rw [eG, eS]; exact hD) m (by rw [e10]; exact hm) (by omega) (by omega)
      rw [eG, eS] at hc
      refine ⟨?_, by omega, fun a b h1 h2 => ?_⟩
      · rw [e38_27]
        unfold sOddF
        generalize dDays (zvG M 30) m (zvS M 37, z32 (x + k)) = D at hc ⊢
        have h73 : zput (zup (cpS N 68 37) 0 14 D.2) 68 D.1 (68 + 5) q = D.1 5 q := zput_5 q0 q1
        have h73 : zput (zup (cpS N 68 37) 0 14 D.2) 68 D.1 73 q = D.1 5 q := h73
        by_cases c : D.1 5 q = 1
        · rw [if_pos c]
          simp (disch := first | assumption | exact zrm0 | exact zrm1 _ | exact zrm2 _ _ | exact zrm3 _ _ _ | exact zrm4 _ _ _ _ | omega) only [m38, ↓k_dp, ↓k_dn, k_dp, k_dn, k_dT, k_dF, k_ip, k_in, if_true, if_false, ne_eq, not_true_eq_false, not_false_eq_true, Int.reduceAdd, zup_a, zup_e, zup_j, z32_id, k_al0, k_il1, k_v2r, k_ifeq, k_il2, k_ic, k_iclt, k_icle, k_ri, k_is4, k_is5, k_il5, k_icge, k_gR, k_v2, k_il3, k_iadd, k_v4r, k_pop, k_ild, k_ildS, k_ildW, k_icne, k_inc4, k_inc5, k_goto, k_il4, zb0_some, zb1_some, e38_0, e38_1, e38_2, e38_5, e38_8, e38_9, e38_10, e38_13, e38_14, e38_16, e38_19, e38_20, e38_21, e38_22, e38_24, e38_25, e38_29, e38_30, e38_33, e38_34, e38_37, e38_38, e38_41, e38_44, e38_45, e38_46, e38_49, e38_51, e38_52, e38_54, e38_55, e38_58, e38_59, e38_60, e38_63, e38_66, e38_67, e38_68, e38_69, e38_72, e38_75, e38_78, e38_81, e38_83, s_copyS, hc, h73, c]
        · rw [if_neg c]
          simp (disch := first | assumption | exact zrm0 | exact zrm1 _ | exact zrm2 _ _ | exact zrm3 _ _ _ | exact zrm4 _ _ _ _ | omega) only [m38, ↓k_dp, ↓k_dn, k_dp, k_dn, k_dT, k_dF, k_ip, k_in, if_true, if_false, ne_eq, not_true_eq_false, not_false_eq_true, Int.reduceAdd, zup_a, zup_e, zup_j, z32_id, k_al0, k_il1, k_v2r, k_ifeq, k_il2, k_ic, k_iclt, k_icle, k_ri, k_is4, k_is5, k_il5, k_icge, k_gR, k_v2, k_il3, k_iadd, k_v4r, k_pop, k_ild, k_ildS, k_ildW, k_icne, k_inc4, k_inc5, k_goto, k_il4, zb0_some, zb1_some, e38_0, e38_1, e38_2, e38_5, e38_8, e38_9, e38_10, e38_13, e38_14, e38_16, e38_19, e38_20, e38_21, e38_22, e38_24, e38_25, e38_29, e38_30, e38_33, e38_34, e38_37, e38_38, e38_41, e38_44, e38_45, e38_46, e38_49, e38_51, e38_52, e38_54, e38_55, e38_58, e38_59, e38_60, e38_63, e38_66, e38_67, e38_68, e38_69, e38_72, e38_75, e38_78, e38_81, e38_83, s_copyS, hc, h73]
      · rw [zput_o (by omega)]
        unfold zup
        rw [if_neg (fun z => h2 ⟨z.1, z.2.1⟩), cpS_o (by omega)]
        exact hN a b h1 h2) n.toNat 0 (0, M) (by omega) ⟨Int.le_refl _, fun _ _ _ _ => rfl⟩
  obtain ⟨h1, -, h2⟩ := hl
  have hf := zit_fst (F := fun (k : Int) (p : Int × zM) => (sOddF (zvS M 37) (zvG M 30) q x m k p.1, zput (zup (cpS p.2 68 37) 0 14 (dDays (zvG M 30) m (zvS M 37, z32 (x + k))).2) 68 (dDays (zvG M 30) m (zvS M 37, z32 (x + k))).1)) (f := sOddF (zvS M 37) (zvG M 30) q x m) (fun _ _ => rfl) n.toNat 0 (0, M)
  dsimp only at hf
  rw [← hf]
  generalize zit (fun (k : Int) (p : Int × zM) => (sOddF (zvS M 37) (zvG M 30) q x m k p.1, zput (zup (cpS p.2 68 37) 0 14 (dDays (zvG M 30) m (zvS M 37, z32 (x + k))).2) 68 (dDays (zvG M 30) m (zvS M 37, z32 (x + k))).1)) n.toNat 0 (0, M) = w at h1 h2
  refine ⟨w.2, ?_, h2⟩
  dsimp only at h1
  rw [h1]
  simp (disch := first | assumption | exact zrm0 | exact zrm1 _ | exact zrm2 _ _ | exact zrm3 _ _ _ | exact zrm4 _ _ _ _ | omega) only [m38, ↓k_dp, ↓k_dn, k_dp, k_dn, k_dT, k_dF, k_ip, k_in, if_true, if_false, ne_eq, not_true_eq_false, not_false_eq_true, Int.reduceAdd, zup_a, zup_e, zup_j, z32_id, k_al0, k_il1, k_v2r, k_ifeq, k_il2, k_ic, k_iclt, k_icle, k_ri, k_is4, k_is5, k_il5, k_icge, k_gR, k_v2, k_il3, k_iadd, k_v4r, k_pop, k_ild, k_ildS, k_ildW, k_icne, k_inc4, k_inc5, k_goto, k_il4, zb0_some, zb1_some, e38_0, e38_1, e38_2, e38_5, e38_8, e38_9, e38_10, e38_13, e38_14, e38_16, e38_19, e38_20, e38_21, e38_22, e38_24, e38_25, e38_27, e38_29, e38_30, e38_33, e38_34, e38_37, e38_38, e38_41, e38_44, e38_45, e38_46, e38_49, e38_51, e38_52, e38_54, e38_55, e38_58, e38_59, e38_60, e38_63, e38_66, e38_67, e38_68, e38_69, e38_72, e38_75, e38_78, e38_81, e38_83]
theorem r_odds0 (d : Nat) (z0 q y n y2 x y3 : Int) (A : zM) (hG : okG (zrG A)) (hD : okD (zrS A) (zrG A)) (hf : A 199 78 = if sPut (zrS A) (zrG A) = true then 1 else 0) (hA : ∀ k, 0 ≤ k → k < 51 → A 203 k = A 199 (75 + k)) (m : Nat) (hm : (m : Int) = sMin 20 (400 - A 199 75)) (q0 : 0 ≤ q) (q1 : q < 5) (n0 : 0 ≤ n) (n1 : n ≤ 30) : ∃ M', zEv true (d + 8) 274 35 [(30, 197, z0), (0, q, y), (0, n, y2), (0, x, y3), (0, 0, 0), (0, 0, 0)] [] A = some ((0, zit (sOddF (zrS A) (zrG A) q x m) n.toNat 0 0, 0), M') ∧ ∀ a b, ¬ (a = 197 ∧ b = 40) → M' a b = A a b := by
  have e10 : zrS A 0 10 = A 199 75 := zrS_0t
  have hday := hD.2.1.2.2.1
  rw [e10] at hday
  have hm1 : A 199 75 + m ≤ 400 := by rw [hm]; unfold sMin; split <;> omega
  have hl := zfor (α := Int × zM) (ph := true) (d := d + 8) (j := 274) (pc := 35) (fun k p => (sOddF (zrS A) (zrG A) q x m k p.1, zcpy (rm p.2 (dDays (zrG A) m (zrS A, z32 (x + k))).2 (if m = 0 then A 199 78 else 0) (dDays (zrG A) m (zrS A, z32 (x + k))).1) 203 0 199 75 51)) (fun k p => 0 ≤ k ∧ ∀ a b, ¬ (a = 197 ∧ b = 40) → p.2 a b = A a b) (fun k p => [(30, 197, z0), (0, q, y), (0, n, y2), (0, x, y3), (0, p.1, 0), (0, k, 0)]) (fun p => p.2) n
    (fun k p hk hp => by
      obtain ⟨v, N⟩ := p
      obtain ⟨k0, hN⟩ := hp
      dsimp only at hN ⊢
      have eG : zrG N = zrG A := zrG_eq (fun b h1 h2 => hN 199 b (by omega))
      have eS : zrS N = zrS A := zrS_eq (fun b h1 h2 h3 => hN 199 b (by omega))
      have hc := r_drawDaysCall (d + 1) z0 20 0 (z32 (x + k)) 0 N (by rw [eG]; exact hG) (by rw [eG, eS]; exact hD) (by rw [hN _ _ (by omega), eG, eS]; exact hf) m (by rw [hN _ _ (by omega)]; exact hm) (by omega) (by omega)
      rw [eG, eS, hN 199 78 (by omega)] at hc
      refine ⟨?_, by omega, fun a b h1 => ?_⟩
      · rw [e274_35]
        unfold sOddF
        generalize dDays (zrG A) m (zrS A, z32 (x + k)) = D at hc ⊢
        generalize (if m = 0 then A 199 78 else 0) = fl at hc ⊢
        have h73 : rm N D.2 fl D.1 199 (111 + q) = D.1 5 q := zpR_5 q0 q1
        by_cases c : D.1 5 q = 1
        · rw [if_pos c]
          simp (disch := first | assumption | exact zrm0 | exact zrm1 _ | exact zrm2 _ _ | exact zrm3 _ _ _ | exact zrm4 _ _ _ _ | omega) only [m274, ↓k_dp, ↓k_dn, k_dp, k_dn, k_dT, k_dF, k_ip, k_in, if_true, if_false, ne_eq, not_true_eq_false, not_false_eq_true, Int.reduceAdd, zup_a, zup_e, zup_j, z32_id, k_al0, k_ic, k_pI, k_il1, k_v2r, k_ifeq, k_il2, k_s3r, k_ifne, k_ri, k_v1, k_is4, k_is5, k_il5, k_icge, k_il3, k_iadd, k_v3r, k_pop, k_gR, k_ild, k_ildS, k_ildW, k_icne, k_inc4, k_inc5, k_goto, k_il4, zb0_some, zb1_some, e274_0, e274_1, e274_2, e274_5, e274_6, e274_7, e274_10, e274_13, e274_14, e274_15, e274_17, e274_20, e274_23, e274_24, e274_25, e274_26, e274_29, e274_30, e274_32, e274_33, e274_37, e274_38, e274_41, e274_42, e274_44, e274_45, e274_47, e274_48, e274_51, e274_52, e274_53, e274_56, e274_58, e274_59, e274_60, e274_61, e274_62, e274_65, e274_68, e274_69, e274_72, e274_75, e274_78, e274_80, hc, h73, c, r_takeBack]
        · rw [if_neg c]
          simp (disch := first | assumption | exact zrm0 | exact zrm1 _ | exact zrm2 _ _ | exact zrm3 _ _ _ | exact zrm4 _ _ _ _ | omega) only [m274, ↓k_dp, ↓k_dn, k_dp, k_dn, k_dT, k_dF, k_ip, k_in, if_true, if_false, ne_eq, not_true_eq_false, not_false_eq_true, Int.reduceAdd, zup_a, zup_e, zup_j, z32_id, k_al0, k_ic, k_pI, k_il1, k_v2r, k_ifeq, k_il2, k_s3r, k_ifne, k_ri, k_v1, k_is4, k_is5, k_il5, k_icge, k_il3, k_iadd, k_v3r, k_pop, k_gR, k_ild, k_ildS, k_ildW, k_icne, k_inc4, k_inc5, k_goto, k_il4, zb0_some, zb1_some, e274_0, e274_1, e274_2, e274_5, e274_6, e274_7, e274_10, e274_13, e274_14, e274_15, e274_17, e274_20, e274_23, e274_24, e274_25, e274_26, e274_29, e274_30, e274_32, e274_33, e274_37, e274_38, e274_41, e274_42, e274_44, e274_45, e274_47, e274_48, e274_51, e274_52, e274_53, e274_56, e274_58, e274_59, e274_60, e274_61, e274_62, e274_65, e274_68, e274_69, e274_72, e274_75, e274_78, e274_80, hc, h73, r_takeBack]
      · by_cases h2 : a = 199 ∧ 75 ≤ b ∧ b < 126
        · obtain ⟨rfl, h3, h4⟩ := h2
          rw [zcpy_i h3 (by omega) (by omega), rm_o (by omega) (by omega), hN _ _ (by omega), hA _ (by omega) (by omega)]
          congr 1
          omega
        · rw [zcpy_z (by omega), rm_o (by omega) (by omega)]
          exact hN a b h1) n.toNat 0 (0, A) (by omega) ⟨Int.le_refl _, fun _ _ _ => rfl⟩
  obtain ⟨h1, -, h2⟩ := hl
  have hf := zit_fst (F := fun (k : Int) (p : Int × zM) => (sOddF (zrS A) (zrG A) q x m k p.1, zcpy (rm p.2 (dDays (zrG A) m (zrS A, z32 (x + k))).2 (if m = 0 then A 199 78 else 0) (dDays (zrG A) m (zrS A, z32 (x + k))).1) 203 0 199 75 51)) (f := sOddF (zrS A) (zrG A) q x m) (fun _ _ => rfl) n.toNat 0 (0, A)
  dsimp only at hf
  rw [← hf]
  generalize zit (fun (k : Int) (p : Int × zM) => (sOddF (zrS A) (zrG A) q x m k p.1, zcpy (rm p.2 (dDays (zrG A) m (zrS A, z32 (x + k))).2 (if m = 0 then A 199 78 else 0) (dDays (zrG A) m (zrS A, z32 (x + k))).1) 203 0 199 75 51)) n.toNat 0 (0, A) = w at h1 h2
  refine ⟨w.2, ?_, h2⟩
  dsimp only at h1
  rw [h1]
  simp (disch := first | assumption | exact zrm0 | exact zrm1 _ | exact zrm2 _ _ | exact zrm3 _ _ _ | exact zrm4 _ _ _ _ | omega) only [m274, ↓k_dp, ↓k_dn, k_dp, k_dn, k_dT, k_dF, k_ip, k_in, if_true, if_false, ne_eq, not_true_eq_false, not_false_eq_true, Int.reduceAdd, zup_a, zup_e, zup_j, z32_id, k_al0, k_ic, k_pI, k_il1, k_v2r, k_ifeq, k_il2, k_s3r, k_ifne, k_ri, k_v1, k_is4, k_is5, k_il5, k_icge, k_il3, k_iadd, k_v3r, k_pop, k_gR, k_ild, k_ildS, k_ildW, k_icne, k_inc4, k_inc5, k_goto, k_il4, zb0_some, zb1_some, e274_0, e274_1, e274_2, e274_5, e274_6, e274_7, e274_10, e274_13, e274_14, e274_15, e274_17, e274_20, e274_23, e274_24, e274_25, e274_26, e274_29, e274_30, e274_32, e274_33, e274_35, e274_37, e274_38, e274_41, e274_42, e274_44, e274_45, e274_47, e274_48, e274_51, e274_52, e274_53, e274_56, e274_58, e274_59, e274_60, e274_61, e274_62, e274_65, e274_68, e274_69, e274_72, e274_75, e274_78, e274_80]
theorem pair_odds (d : Nat) (x0 z0 q y0 z1 n y1 z2 x y2 z3 : Int) (M : zM) (hC : relC M) (hE : relE M) (hF : relF M) : zPairD M (zEm true (d + 9) 38 [(29, 0, x0), (0, q, y0), (0, n, y1), (0, x, y2)] M) (fun M1 => zEm true (d + 9) 274 [(30, 197, z0), (0, q, z1), (0, n, z2), (0, x, z3)] M1) := by
  have hG := hC.2
  obtain ⟨n0, n1, n2, n3, n4, n5⟩ := relC_n hC
  obtain ⟨s8, s9, st, -⟩ := relE_n hE
  obtain ⟨-, -, ⟨g3, g4⟩, -⟩ := okG_M hG
  have hday := hE.2.1.1.2.2.1
  rw [zvS_0 (by omega) (by omega)] at hday
  have oD : okD (zvS M 37) (zvG M 30) := ⟨zt_v, hE.2.1⟩
  have keep : ∀ Z, (∀ x y, ¬ (68 ≤ x ∧ x ≤ 76) → ¬ (x = 0 ∧ y = 14) → ¬ (x = 197 ∧ (y = 0 ∨ y = 40)) → x ≠ 203 → Z x y = M x y) → relC Z ∧ relE Z ∧ relF Z ∧ ∀ x y, ¬ zFD x y → Z x y = M x y := by
    intro Z h
    obtain ⟨a1, a2, a3⟩ := rel_keep (M' := Z) hC hE hF (fun x y hx => h x y (by omega) (by omega) (by omega) (by omega))
    refine ⟨a1, a2, a3, fun x y hx => ?_⟩
    unfold zFD zFA zFC zFR at hx
    exact h x y (by omega) (by omega) (by omega) (by omega)
  by_cases c : (0 ≤ q ∧ q < M 30 8) ∧ 1 ≤ n ∧ n ≤ 30
  · obtain ⟨c1, c2, c3⟩ := c
    obtain ⟨m, hm⟩ : ∃ m : Nat, (m : Int) = sMin 20 (400 - M 37 10) := ⟨(sMin 20 (400 - M 37 10)).toNat, by unfold sMin; split <;> omega⟩
    obtain ⟨M1, h1, h2⟩ := c_odds0 (d + 1) x0 q y0 n y1 x y2 M hG oD m hm c1.1 (by omega) (by omega) c3
    have hcc : zEm true (d + 9) 38 [(29, 0, x0), (0, q, y0), (0, n, y1), (0, x, y2)] M = some ((0, zit (sOddF (zvS M 37) (zvG M 30) q x m) n.toNat 0 0, 0), M1) := by
      rw [← h1]
      simp (disch := first | assumption | exact zrm0 | exact zrm1 _ | exact zrm2 _ _ | exact zrm3 _ _ _ | exact zrm4 _ _ _ _ | omega) only [m38, ↓k_dp, ↓k_dn, k_dp, k_dn, k_dT, k_dF, k_ip, k_in, if_true, if_false, ne_eq, not_true_eq_false, not_false_eq_true, Int.reduceAdd, zup_a, zup_e, zup_j, z32_id, k_al0, k_il1, k_v2r, k_ifeq, k_il2, k_ic, k_iclt, k_icle, k_ri, k_is4, k_is5, k_il5, k_icge, k_gR, k_v2, k_il3, k_iadd, k_v4r, k_pop, k_ild, k_ildS, k_ildW, k_icne, k_inc4, k_inc5, k_goto, k_il4, zb0_some, zb1_some, e38_0, e38_1, e38_2, e38_5, e38_8, e38_9, e38_10, e38_13, e38_14, e38_16, e38_19, e38_20, e38_21, e38_22, e38_24, e38_25, e38_29, e38_30, e38_33, e38_34, e38_37, e38_38, e38_41, e38_44, e38_45, e38_46, e38_49, e38_51, e38_52, e38_54, e38_55, e38_58, e38_59, e38_60, e38_63, e38_66, e38_67, e38_68, e38_69, e38_72, e38_75, e38_78, e38_81, e38_83, c_isQuestion, if_pos c1]
    obtain ⟨A, hA⟩ : ∃ A, A = zcpy (zup M1 197 0 0) 199 75 203 0 51 := ⟨_, rfl⟩
    have hAo : ∀ a b, a ≠ 203 → ¬ (a = 197 ∧ b = 0) → A a b = M1 a b := fun a b h3 h4 => by
      rw [hA, zcpy_o h3]
      unfold zup
      rw [if_neg (fun z => h4 ⟨z.1, z.2.1⟩)]
    have hAM : ∀ b, A 199 b = M 199 b := fun b => by rw [hAo _ _ (by omega) (by omega), h2 _ _ (by omega) (by omega)]
    have eG : zrG A = zvG M 30 := by rw [zrG_eq (M := M) (fun y _ _ => hAM y)]; exact hC.1
    have eS : zrS A = zvS M 37 := by rw [zrS_eq (M := M) (fun y _ _ _ => hAM y)]; exact hE.1
    have hAA : ∀ k, 0 ≤ k → k < 51 → A 203 k = A 199 (75 + k) := fun k k0 k1 => by
      rw [hAo 199 _ (by omega) (by omega), hA, zcpy_i k0 (by omega) (by omega), zup_a (by omega)]
      congr 1
      omega
    obtain ⟨M2, h3, h4⟩ := r_odds0 d z0 q z1 n z2 x z3 A (by rw [eG]; exact hG) (by rw [eG, eS]; exact oD) (by rw [hAM, eG, eS]; exact hE.2.2) hAA m (by rw [hAM, st]; exact hm) c1.1 (by omega) (by omega) c3
    rw [eG, eS] at h3
    have hrc : zEm true (d + 9) 274 [(30, 197, z0), (0, q, z1), (0, n, z2), (0, x, z3)] M1 = some ((0, zit (sOddF (zvS M 37) (zvG M 30) q x m) n.toNat 0 0, 0), M2) := by
      have e2 : M1 199 2 = M 30 8 := by rw [h2 _ _ (by omega) (by omega)]; exact n2
      have g3' : 0 ≤ M1 199 2 := by rw [e2]; exact g3
      have g4' : M1 199 2 ≤ 5 := by rw [e2]; exact g4
      have hin : 1 ≤ n ∧ n ≤ 30 := ⟨c2, c3⟩
      rw [← h3]
      simp (disch := first | assumption | exact zrm0 | exact zrm1 _ | exact zrm2 _ _ | exact zrm3 _ _ _ | exact zrm4 _ _ _ _ | omega) only [m274, ↓k_dp, ↓k_dn, k_dp, k_dn, k_dT, k_dF, k_ip, k_in, if_true, if_false, ne_eq, not_true_eq_false, not_false_eq_true, Int.reduceAdd, zup_a, zup_e, zup_j, z32_id, k_al0, k_ic, k_pI, k_il1, k_v2r, k_ifeq, k_il2, k_s3r, k_ifne, k_ri, k_v1, k_is4, k_is5, k_il5, k_icge, k_il3, k_iadd, k_v3r, k_pop, k_gR, k_ild, k_ildS, k_ildW, k_icne, k_inc4, k_inc5, k_goto, k_il4, zb0_some, zb1_some, e274_0, e274_1, e274_2, e274_5, e274_6, e274_7, e274_10, e274_13, e274_14, e274_15, e274_17, e274_20, e274_23, e274_24, e274_25, e274_26, e274_29, e274_30, e274_32, e274_33, e274_37, e274_38, e274_41, e274_42, e274_44, e274_45, e274_47, e274_48, e274_51, e274_52, e274_53, e274_56, e274_58, e274_59, e274_60, e274_61, e274_62, e274_65, e274_68, e274_69, e274_72, e274_75, e274_78, e274_80, rT_isQuestion, e2, if_pos c1, r_isIn, if_pos hin, r_layAside, hA.symm]
    obtain ⟨p1, p2, p3, p4⟩ := keep M2 (fun a b a1 a2 a3 a4 => by rw [h4 a b (by omega), hAo a b a4 (by omega), h2 a b a1 a2])
    exact ⟨_, M1, M2, hcc, hrc, p1, p2, p3, p4⟩
  · obtain ⟨p1, p2, p3, p4⟩ := keep (zup M 197 0 0) (fun a b a1 a2 a3 a4 => by unfold zup; rw [if_neg (by omega)])
    refine ⟨-1, M, zup M 197 0 0, ?_, ?_, p1, p2, p3, p4⟩
    · by_cases c1 : 0 ≤ q ∧ q < M 30 8
      · simp (disch := first | assumption | exact zrm0 | exact zrm1 _ | exact zrm2 _ _ | exact zrm3 _ _ _ | exact zrm4 _ _ _ _ | omega) only [m38, ↓k_dp, ↓k_dn, k_dp, k_dn, k_dT, k_dF, k_ip, k_in, if_true, if_false, ne_eq, not_true_eq_false, not_false_eq_true, Int.reduceAdd, zup_a, zup_e, zup_j, z32_id, k_al0, k_il1, k_v2r, k_ifeq, k_il2, k_ic, k_iclt, k_icle, k_ri, k_is4, k_is5, k_il5, k_icge, k_gR, k_v2, k_il3, k_iadd, k_v4r, k_pop, k_ild, k_ildS, k_ildW, k_icne, k_inc4, k_inc5, k_goto, k_il4, zb0_some, zb1_some, e38_0, e38_1, e38_2, e38_5, e38_8, e38_9, e38_10, e38_13, e38_14, e38_16, e38_19, e38_20, e38_21, e38_22, e38_24, e38_25, e38_27, e38_29, e38_30, e38_33, e38_34, e38_37, e38_38, e38_41, e38_44, e38_45, e38_46, e38_49, e38_51, e38_52, e38_54, e38_55, e38_58, e38_59, e38_60, e38_63, e38_66, e38_67, e38_68, e38_69, e38_72, e38_75, e38_78, e38_81, e38_83, c_isQuestion, if_pos c1]
        all_goals (split <;> rfl)
      · simp (disch := first | assumption | exact zrm0 | exact zrm1 _ | exact zrm2 _ _ | exact zrm3 _ _ _ | exact zrm4 _ _ _ _ | omega) only [m38, ↓k_dp, ↓k_dn, k_dp, k_dn, k_dT, k_dF, k_ip, k_in, if_true, if_false, ne_eq, not_true_eq_false, not_false_eq_true, Int.reduceAdd, zup_a, zup_e, zup_j, z32_id, k_al0, k_il1, k_v2r, k_ifeq, k_il2, k_ic, k_iclt, k_icle, k_ri, k_is4, k_is5, k_il5, k_icge, k_gR, k_v2, k_il3, k_iadd, k_v4r, k_pop, k_ild, k_ildS, k_ildW, k_icne, k_inc4, k_inc5, k_goto, k_il4, zb0_some, zb1_some, e38_0, e38_1, e38_2, e38_5, e38_8, e38_9, e38_10, e38_13, e38_14, e38_16, e38_19, e38_20, e38_21, e38_22, e38_24, e38_25, e38_27, e38_29, e38_30, e38_33, e38_34, e38_37, e38_38, e38_41, e38_44, e38_45, e38_46, e38_49, e38_51, e38_52, e38_54, e38_55, e38_58, e38_59, e38_60, e38_63, e38_66, e38_67, e38_68, e38_69, e38_72, e38_75, e38_78, e38_81, e38_83, c_isQuestion, if_neg c1]
    · by_cases c1 : 0 ≤ q ∧ q < M 30 8
      · have c2 : ¬ (1 ≤ n ∧ n ≤ 30) := fun z => c ⟨c1, z⟩
        simp (disch := first | assumption | exact zrm0 | exact zrm1 _ | exact zrm2 _ _ | exact zrm3 _ _ _ | exact zrm4 _ _ _ _ | omega) only [m274, ↓k_dp, ↓k_dn, k_dp, k_dn, k_dT, k_dF, k_ip, k_in, if_true, if_false, ne_eq, not_true_eq_false, not_false_eq_true, Int.reduceAdd, zup_a, zup_e, zup_j, z32_id, k_al0, k_ic, k_pI, k_il1, k_v2r, k_ifeq, k_il2, k_s3r, k_ifne, k_ri, k_v1, k_is4, k_is5, k_il5, k_icge, k_il3, k_iadd, k_v3r, k_pop, k_gR, k_ild, k_ildS, k_ildW, k_icne, k_inc4, k_inc5, k_goto, k_il4, zb0_some, zb1_some, e274_0, e274_1, e274_2, e274_5, e274_6, e274_7, e274_10, e274_13, e274_14, e274_15, e274_17, e274_20, e274_23, e274_24, e274_25, e274_26, e274_29, e274_30, e274_32, e274_33, e274_35, e274_37, e274_38, e274_41, e274_42, e274_44, e274_45, e274_47, e274_48, e274_51, e274_52, e274_53, e274_56, e274_58, e274_59, e274_60, e274_61, e274_62, e274_65, e274_68, e274_69, e274_72, e274_75, e274_78, e274_80, rT_isQuestion, n2, if_pos c1, r_isIn, if_neg c2]
      · simp (disch := first | assumption | exact zrm0 | exact zrm1 _ | exact zrm2 _ _ | exact zrm3 _ _ _ | exact zrm4 _ _ _ _ | omega) only [m274, ↓k_dp, ↓k_dn, k_dp, k_dn, k_dT, k_dF, k_ip, k_in, if_true, if_false, ne_eq, not_true_eq_false, not_false_eq_true, Int.reduceAdd, zup_a, zup_e, zup_j, z32_id, k_al0, k_ic, k_pI, k_il1, k_v2r, k_ifeq, k_il2, k_s3r, k_ifne, k_ri, k_v1, k_is4, k_is5, k_il5, k_icge, k_il3, k_iadd, k_v3r, k_pop, k_gR, k_ild, k_ildS, k_ildW, k_icne, k_inc4, k_inc5, k_goto, k_il4, zb0_some, zb1_some, e274_0, e274_1, e274_2, e274_5, e274_6, e274_7, e274_10, e274_13, e274_14, e274_15, e274_17, e274_20, e274_23, e274_24, e274_25, e274_26, e274_29, e274_30, e274_32, e274_33, e274_35, e274_37, e274_38, e274_41, e274_42, e274_44, e274_45, e274_47, e274_48, e274_51, e274_52, e274_53, e274_56, e274_58, e274_59, e274_60, e274_61, e274_62, e274_65, e274_68, e274_69, e274_72, e274_75, e274_78, e274_80, rT_isQuestion, n2, if_neg c1]
