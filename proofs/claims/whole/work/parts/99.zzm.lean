/-! the lines of a book are lived, one behind the other -/
noncomputable def bRun (G N : zM) : Nat → Int → zM → Int × Int × zM
  | 0, k, T => (0, k, T)
  | n + 1, k, T => if bWhy T G (N 26 k) (N 27 k) (N 28 k) (N 29 k) = 0 then bRun G N n (k + 1) (bT T G (N 26 k) (N 27 k) (N 28 k) (N 29 k)) else (N 26 k + bWhy T G (N 26 k) (N 27 k) (N 28 k) (N 29 k), k, T)
theorem bRun_t {G N : zM} {n : Nat} {k : Int} {T : zM} (c : bWhy T G (N 26 k) (N 27 k) (N 28 k) (N 29 k) = 0) : bRun G N (n + 1) k T = bRun G N n (k + 1) (bT T G (N 26 k) (N 27 k) (N 28 k) (N 29 k)) := by
  rw [bRun, if_pos c]
theorem bRun_f {G N : zM} {n : Nat} {k : Int} {T : zM} (c : ¬ bWhy T G (N 26 k) (N 27 k) (N 28 k) (N 29 k) = 0) : bRun G N (n + 1) k T = (N 26 k + bWhy T G (N 26 k) (N 27 k) (N 28 k) (N 29 k), k, T) := by
  rw [bRun, if_neg c]
def bLs (G N : zM) (K : Int) : Prop := ∀ j, 0 ≤ j → j < K → bLn (G 0 7) (G 0 8) (N 26 j) (N 27 j) (N 28 j) (N 29 j)
theorem bLn_w {H Q w h q n : Int} (hb : bLn H Q w h q n) : 0 ≤ w ∧ w ≤ 70 := by
  unfold bLn at hb
  omega
theorem bRun_ok {G N : zM} {K : Int} (hG : okG G) (hl : bLs G N K) : ∀ (n : Nat) (k : Int) (T : zM), okD T G → 0 ≤ k → k + n = K → okD (bRun G N n k T).2.2 G ∧ k ≤ (bRun G N n k T).2.1 ∧ (bRun G N n k T).2.1 ≤ K ∧ 0 ≤ (bRun G N n k T).1 ∧ (bRun G N n k T).1 ≤ 73 ∧ ((bRun G N n k T).2.1 = k → (bRun G N n k T).2.2 = T)
  | 0, k, T, hT, k0, hk => ⟨hT, Int.le_refl _, by show k ≤ K; omega, Int.le_refl _, by show (0 : Int) ≤ 73; omega, fun _ => rfl⟩
  | n + 1, k, T, hT, k0, hk => by
    have hb := hl k k0 (by omega)
    have hw := bLn_w hb
    have hy := bWhy_bd (T := T) (G := G) (w := N 26 k) (h := N 27 k) (q := N 28 k) (n := N 29 k)
    by_cases c : bWhy T G (N 26 k) (N 27 k) (N 28 k) (N 29 k) = 0
    · rw [bRun_t c]
      obtain ⟨h1, h2, h3, h4, h5, h6⟩ := bRun_ok hG hl n (k + 1) _ (okD_b hG hT hb) (by omega) (by omega)
      exact ⟨h1, by omega, h3, h4, h5, fun z => by omega⟩
    · rw [bRun_f c]
      exact ⟨hT, Int.le_refl _, by show k ≤ K; omega, by show 0 ≤ N 26 k + _; omega, by show N 26 k + _ ≤ 73; omega, fun _ => rfl⟩
theorem c_liveL (d : Nat) (x0 lv y a K : Int) (N : zM) (ha : 37 ≤ a) (hG : okG (zvG N 30)) (hK : N 25 4 = K) (k40 : K ≤ 40) (hl : bLs (zvG N 30) N K) : ∀ (n : Nat) (k : Int) (T : zM), okD T (zvG N 30) → 0 ≤ k → k + n = K → zEv true (d + 6) 39 107 [(29, 0, x0), (0, lv, y), (0, 1, 0), (26, a, 0), (0, 0, 0), (0, k, 0)] [] (zput N a T) = zEv true (d + 6) 39 157 [(29, 0, x0), (0, lv, y), (0, 1, 0), (26, a, 0), (0, (bRun (zvG N 30) N n k T).1, 0), (0, (bRun (zvG N 30) N n k T).2.1, 0)] [] (zput N a (bRun (zvG N 30) N n k T).2.2)
  | 0, k, T, hT, k0, hk => by
    have e4 : zput N a T 25 4 = K := by rw [zput_o (by omega)]; exact hK
    show _ = zEv true (d + 6) 39 157 [(29, 0, x0), (0, lv, y), (0, 1, 0), (26, a, 0), (0, 0, 0), (0, k, 0)] [] (zput N a T)
    rw [e39_107]
    simp (disch := first | assumption | exact zrm0 | exact zrm1 _ | exact zrm2 _ _ | exact zrm3 _ _ _ | exact zrm4 _ _ _ _ | omega) only [m39, ↓k_dp, ↓k_dn, k_dp, k_dn, k_dT, k_dF, k_ip, k_in, if_true, if_false, ne_eq, not_true_eq_false, not_false_eq_true, Int.reduceAdd, zup_a, zup_e, zup_j, z32_id, k_il1, k_ifeq, k_ic, k_iceq, k_ri, k_al0, k_gR, k_v2r, k_is2, k_pI, k_gI, k_il2, k_ifne, k_isub, k_v2, k_icne, k_goto, k_as3, k_is4, k_is5, k_il5, k_icge, k_il4, k_al3, k_v4r, k_inc5, k_v3r, k_v5, k_ifle, k_v1, zb0_some, zb1_some, e39_0, e39_1, e39_4, e39_5, e39_6, e39_9, e39_12, e39_13, e39_14, e39_17, e39_18, e39_21, e39_24, e39_25, e39_26, e39_29, e39_30, e39_33, e39_34, e39_37, e39_38, e39_41, e39_44, e39_47, e39_48, e39_51, e39_53, e39_54, e39_57, e39_60, e39_61, e39_62, e39_63, e39_66, e39_67, e39_70, e39_73, e39_74, e39_77, e39_78, e39_81, e39_84, e39_85, e39_86, e39_89, e39_90, e39_93, e39_96, e39_97, e39_100, e39_101, e39_102, e39_104, e39_105, e39_109, e39_110, e39_113, e39_116, e39_119, e39_122, e39_124, e39_127, e39_128, e39_131, e39_134, e39_135, e39_138, e39_139, e39_141, e39_144, e39_146, e39_148, e39_151, e39_154, e39_158, e39_161, e39_163, e39_165, e39_166, e39_169, e39_170, e39_171, e39_174, e39_175, e39_178, e39_181, e39_182, e39_183, e39_186, e39_188, e39_191, e39_192, e39_195, e39_197, e39_200, e39_201, e39_204, e39_206, e4]
  | n + 1, k, T, hT, k0, hk => by
    have e4 : zput N a T 25 4 = K := by rw [zput_o (by omega)]; exact hK
    have hb := hl k k0 (by omega)
    have hw := bLn_w hb
    have hy := bWhy_bd (T := T) (G := zvG N 30) (w := N 26 k) (h := N 27 k) (q := N 28 k) (n := N 29 k)
    have ht := c_try d a 0 0 0 k _ _ _ _ N T ha hG hT k0 (by omega) rfl rfl rfl rfl hb
    have hlv := s_live (d + 5) a 0 0 0 0 k K (N 26 k) _ (zput N a T) _ e4 (zput_o (by omega)) k0 (by omega) k40 hw.1 hw.2 hy.1 hy.2 ht
    by_cases c : bWhy T (zvG N 30) (N 26 k) (N 27 k) (N 28 k) (N 29 k) = 0
    · rw [bRun_t c]
      rw [if_pos c] at hlv
      have ih := c_liveL d x0 lv y a K N ha hG hK k40 hl n (k + 1) _ (okD_b hG hT hb) (by omega) (by omega)
      rw [← ih, e39_107]
      simp (disch := first | assumption | exact zrm0 | exact zrm1 _ | exact zrm2 _ _ | exact zrm3 _ _ _ | exact zrm4 _ _ _ _ | omega) only [m39, ↓k_dp, ↓k_dn, k_dp, k_dn, k_dT, k_dF, k_ip, k_in, if_true, if_false, ne_eq, not_true_eq_false, not_false_eq_true, Int.reduceAdd, zup_a, zup_e, zup_j, z32_id, k_il1, k_ifeq, k_ic, k_iceq, k_ri, k_al0, k_gR, k_v2r, k_is2, k_pI, k_gI, k_il2, k_ifne, k_isub, k_v2, k_icne, k_goto, k_as3, k_is4, k_is5, k_il5, k_icge, k_il4, k_al3, k_v4r, k_inc5, k_v3r, k_v5, k_ifle, k_v1, zb0_some, zb1_some, e39_0, e39_1, e39_4, e39_5, e39_6, e39_9, e39_12, e39_13, e39_14, e39_17, e39_18, e39_21, e39_24, e39_25, e39_26, e39_29, e39_30, e39_33, e39_34, e39_37, e39_38, e39_41, e39_44, e39_47, e39_48, e39_51, e39_53, e39_54, e39_57, e39_60, e39_61, e39_62, e39_63, e39_66, e39_67, e39_70, e39_73, e39_74, e39_77, e39_78, e39_81, e39_84, e39_85, e39_86, e39_89, e39_90, e39_93, e39_96, e39_97, e39_100, e39_101, e39_102, e39_104, e39_105, e39_109, e39_110, e39_113, e39_116, e39_119, e39_122, e39_124, e39_127, e39_128, e39_131, e39_134, e39_135, e39_138, e39_139, e39_141, e39_144, e39_146, e39_148, e39_151, e39_154, e39_158, e39_161, e39_163, e39_165, e39_166, e39_169, e39_170, e39_171, e39_174, e39_175, e39_178, e39_181, e39_182, e39_183, e39_186, e39_188, e39_191, e39_192, e39_195, e39_197, e39_200, e39_201, e39_204, e39_206, e4, hlv]
    · rw [bRun_f c]
      rw [if_neg c] at hlv
      have e2 : bT T (zvG N 30) (N 26 k) (N 27 k) (N 28 k) (N 29 k) = T := by unfold bT; rw [if_neg c]
      rw [e2] at hlv
      show _ = zEv true (d + 6) 39 157 [(29, 0, x0), (0, lv, y), (0, 1, 0), (26, a, 0), (0, N 26 k + bWhy T (zvG N 30) (N 26 k) (N 27 k) (N 28 k) (N 29 k), 0), (0, k, 0)] [] (zput N a T)
      generalize bWhy T (zvG N 30) (N 26 k) (N 27 k) (N 28 k) (N 29 k) = u at *
      generalize N 26 k = w at *
      have s1 : zEv true (d + 6) 39 107 [(29, 0, x0), (0, lv, y), (0, 1, 0), (26, a, 0), (0, 0, 0), (0, k, 0)] [] (zput N a T) = zEv true (d + 6) 39 107 [(29, 0, x0), (0, lv, y), (0, 1, 0), (26, a, 0), (0, w + u, 0), (0, k, 0)] [] (zput N a T) := by
        rw [e39_107]
        simp (disch := first | assumption | exact zrm0 | exact zrm1 _ | exact zrm2 _ _ | exact zrm3 _ _ _ | exact zrm4 _ _ _ _ | omega) only [m39, ↓k_dp, ↓k_dn, k_dp, k_dn, k_dT, k_dF, k_ip, k_in, if_true, if_false, ne_eq, not_true_eq_false, not_false_eq_true, Int.reduceAdd, zup_a, zup_e, zup_j, z32_id, k_il1, k_ifeq, k_ic, k_iceq, k_ri, k_al0, k_gR, k_v2r, k_is2, k_pI, k_gI, k_il2, k_ifne, k_isub, k_v2, k_icne, k_goto, k_as3, k_is4, k_is5, k_il5, k_icge, k_il4, k_al3, k_v4r, k_inc5, k_v3r, k_v5, k_ifle, k_v1, zb0_some, zb1_some, e39_0, e39_1, e39_4, e39_5, e39_6, e39_9, e39_12, e39_13, e39_14, e39_17, e39_18, e39_21, e39_24, e39_25, e39_26, e39_29, e39_30, e39_33, e39_34, e39_37, e39_38, e39_41, e39_44, e39_47, e39_48, e39_51, e39_53, e39_54, e39_57, e39_60, e39_61, e39_62, e39_63, e39_66, e39_67, e39_70, e39_73, e39_74, e39_77, e39_78, e39_81, e39_84, e39_85, e39_86, e39_89, e39_90, e39_93, e39_96, e39_97, e39_100, e39_101, e39_102, e39_104, e39_105, e39_109, e39_110, e39_113, e39_116, e39_119, e39_122, e39_124, e39_127, e39_128, e39_131, e39_134, e39_135, e39_138, e39_139, e39_141, e39_144, e39_146, e39_148, e39_151, e39_154, e39_158, e39_161, e39_163, e39_165, e39_166, e39_169, e39_170, e39_171, e39_174, e39_175, e39_178, e39_181, e39_182, e39_183, e39_186, e39_188, e39_191, e39_192, e39_195, e39_197, e39_200, e39_201, e39_204, e39_206, e4, hlv]
      rw [s1, e39_107]
      simp (disch := first | assumption | exact zrm0 | exact zrm1 _ | exact zrm2 _ _ | exact zrm3 _ _ _ | exact zrm4 _ _ _ _ | omega) only [m39, ↓k_dp, ↓k_dn, k_dp, k_dn, k_dT, k_dF, k_ip, k_in, if_true, if_false, ne_eq, not_true_eq_false, not_false_eq_true, Int.reduceAdd, zup_a, zup_e, zup_j, z32_id, k_il1, k_ifeq, k_ic, k_iceq, k_ri, k_al0, k_gR, k_v2r, k_is2, k_pI, k_gI, k_il2, k_ifne, k_isub, k_v2, k_icne, k_goto, k_as3, k_is4, k_is5, k_il5, k_icge, k_il4, k_al3, k_v4r, k_inc5, k_v3r, k_v5, k_ifle, k_v1, zb0_some, zb1_some, e39_0, e39_1, e39_4, e39_5, e39_6, e39_9, e39_12, e39_13, e39_14, e39_17, e39_18, e39_21, e39_24, e39_25, e39_26, e39_29, e39_30, e39_33, e39_34, e39_37, e39_38, e39_41, e39_44, e39_47, e39_48, e39_51, e39_53, e39_54, e39_57, e39_60, e39_61, e39_62, e39_63, e39_66, e39_67, e39_70, e39_73, e39_74, e39_77, e39_78, e39_81, e39_84, e39_85, e39_86, e39_89, e39_90, e39_93, e39_96, e39_97, e39_100, e39_101, e39_102, e39_104, e39_105, e39_109, e39_110, e39_113, e39_116, e39_119, e39_122, e39_124, e39_127, e39_128, e39_131, e39_134, e39_135, e39_138, e39_139, e39_141, e39_144, e39_146, e39_148, e39_151, e39_154, e39_158, e39_161, e39_163, e39_165, e39_166, e39_169, e39_170, e39_171, e39_174, e39_175, e39_178, e39_181, e39_182, e39_183, e39_186, e39_188, e39_191, e39_192, e39_195, e39_197, e39_200, e39_201, e39_204, e39_206, e4]
theorem r_liveL (d : Nat) (z0 lv y K sd : Int) (B N : zM) (hG : okG (zrG B)) (hK : B 197 43 = K) (k40 : K ≤ 40) (hl : ∀ j, 0 ≤ j → j < K → bkK N B (zrG B 0 7) (zrG B 0 8) j) : ∀ (n : Nat) (k : Int) (T : zM), okD T (zrG B) → 0 ≤ k → k + n = K → zEv true (d + 8) 283 73 [(30, 197, z0), (0, lv, y), (0, k, 0), (0, 0, 0)] [] (rm B sd (zfl (sPut T (zrG B))) T) = zEv true (d + 8) 283 103 [(30, 197, z0), (0, lv, y), (0, (bRun (zrG B) N n k T).2.1, 0), (0, (bRun (zrG B) N n k T).1, 0)] [] (rm B sd (zfl (sPut (bRun (zrG B) N n k T).2.2 (zrG B))) (bRun (zrG B) N n k T).2.2)
  | 0, k, T, hT, k0, hk => by
    have e4 : rm B sd (zfl (sPut T (zrG B))) T 197 43 = K := by rw [rm_o (by omega) (by omega)]; exact hK
    show _ = zEv true (d + 8) 283 103 [(30, 197, z0), (0, lv, y), (0, k, 0), (0, 0, 0)] [] (rm B sd (zfl (sPut T (zrG B))) T)
    rw [e283_73]
    simp (disch := first | assumption | exact zrm0 | exact zrm1 _ | exact zrm2 _ _ | exact zrm3 _ _ _ | exact zrm4 _ _ _ _ | omega) only [m283, ↓k_dp, ↓k_dn, k_dp, k_dn, k_dT, k_dF, k_ip, k_in, if_true, if_false, ne_eq, not_true_eq_false, not_false_eq_true, Int.reduceAdd, zup_a, zup_e, zup_j, z32_id, k_al0, k_ic, k_pI, k_il1, k_s3r, k_ifne, k_ri, k_v2, k_gI, k_ifeq, k_v1r, k_isub, k_dup, k_iadd, k_goto, k_v1, k_is2, k_is3, k_il2, k_icge, k_il3, k_imul, k_v2r, k_inc2, k_gR, k_ist, k_ild, k_ildS, k_ildW, k_pZ, k_icne, k_ifle, zb0_some, zb1_some, e283_0, e283_1, e283_2, e283_5, e283_6, e283_7, e283_8, e283_11, e283_14, e283_17, e283_18, e283_19, e283_22, e283_25, e283_26, e283_27, e283_30, e283_31, e283_34, e283_37, e283_38, e283_41, e283_44, e283_46, e283_47, e283_50, e283_51, e283_52, e283_53, e283_54, e283_57, e283_58, e283_59, e283_62, e283_65, e283_66, e283_69, e283_70, e283_71, e283_72, e283_74, e283_75, e283_78, e283_81, e283_82, e283_85, e283_86, e283_87, e283_88, e283_89, e283_92, e283_93, e283_94, e283_97, e283_100, e283_104, e283_107, e283_108, e283_109, e283_110, e283_111, e283_114, e283_115, e283_116, e283_117, e283_118, e283_121, e283_122, e283_123, e283_126, e283_128, e283_129, e283_130, e283_131, e283_134, e283_135, e283_136, e283_137, e283_140, e283_141, e283_142, e283_143, e283_146, e283_147, e283_148, e283_149, e283_152, e283_153, e283_156, e283_157, e283_160, e283_161, e283_164, e283_165, e283_168, e283_169, e283_172, e283_173, e4]
  | n + 1, k, T, hT, k0, hk => by
    have e4 : ∀ f U, rm B sd f U 197 43 = K := fun f U => by rw [rm_o (by omega) (by omega)]; exact hK
    have hb := hl k k0 (by omega)
    have hbl := bLn_of hb
    have hw := bLn_w hbl
    have hy := bWhy_bd (T := T) (G := zrG B) (w := N 26 k) (h := N 27 k) (q := N 28 k) (n := N 29 k)
    have hg := r_goBy d z0 k 0 _ _ _ _ _ _ _ _ B T sd _ hG hT rfl k0 (by omega) rfl rfl rfl rfl hb
    by_cases c : bWhy T (zrG B) (N 26 k) (N 27 k) (N 28 k) (N 29 k) = 0
    · rw [bRun_t c]
      rw [if_pos c] at hg
      have ih := r_liveL d z0 lv y K sd B N hG hK k40 hl n (k + 1) _ (okD_b hG hT hbl) (by omega) (by omega)
      rw [← ih, e283_73]
      simp (disch := first | assumption | exact zrm0 | exact zrm1 _ | exact zrm2 _ _ | exact zrm3 _ _ _ | exact zrm4 _ _ _ _ | omega) only [m283, ↓k_dp, ↓k_dn, k_dp, k_dn, k_dT, k_dF, k_ip, k_in, if_true, if_false, ne_eq, not_true_eq_false, not_false_eq_true, Int.reduceAdd, zup_a, zup_e, zup_j, z32_id, k_al0, k_ic, k_pI, k_il1, k_s3r, k_ifne, k_ri, k_v2, k_gI, k_ifeq, k_v1r, k_isub, k_dup, k_iadd, k_goto, k_v1, k_is2, k_is3, k_il2, k_icge, k_il3, k_imul, k_v2r, k_inc2, k_gR, k_ist, k_ild, k_ildS, k_ildW, k_pZ, k_icne, k_ifle, zb0_some, zb1_some, e283_0, e283_1, e283_2, e283_5, e283_6, e283_7, e283_8, e283_11, e283_14, e283_17, e283_18, e283_19, e283_22, e283_25, e283_26, e283_27, e283_30, e283_31, e283_34, e283_37, e283_38, e283_41, e283_44, e283_46, e283_47, e283_50, e283_51, e283_52, e283_53, e283_54, e283_57, e283_58, e283_59, e283_62, e283_65, e283_66, e283_69, e283_70, e283_71, e283_72, e283_74, e283_75, e283_78, e283_81, e283_82, e283_85, e283_86, e283_87, e283_88, e283_89, e283_92, e283_93, e283_94, e283_97, e283_100, e283_104, e283_107, e283_108, e283_109, e283_110, e283_111, e283_114, e283_115, e283_116, e283_117, e283_118, e283_121, e283_122, e283_123, e283_126, e283_128, e283_129, e283_130, e283_131, e283_134, e283_135, e283_136, e283_137, e283_140, e283_141, e283_142, e283_143, e283_146, e283_147, e283_148, e283_149, e283_152, e283_153, e283_156, e283_157, e283_160, e283_161, e283_164, e283_165, e283_168, e283_169, e283_172, e283_173, e4, hg]
    · rw [bRun_f c]
      rw [if_neg c] at hg
      have e2 : bT T (zrG B) (N 26 k) (N 27 k) (N 28 k) (N 29 k) = T := by unfold bT; rw [if_neg c]
      rw [e2] at hg
      show _ = zEv true (d + 8) 283 103 [(30, 197, z0), (0, lv, y), (0, k, 0), (0, N 26 k + bWhy T (zrG B) (N 26 k) (N 27 k) (N 28 k) (N 29 k), 0)] [] (rm B sd (zfl (sPut T (zrG B))) T)
      generalize zfl (sPut T (zrG B)) = f at *
      generalize bWhy T (zrG B) (N 26 k) (N 27 k) (N 28 k) (N 29 k) = u at *
      generalize N 26 k = w at *
      have s1 : zEv true (d + 8) 283 73 [(30, 197, z0), (0, lv, y), (0, k, 0), (0, 0, 0)] [] (rm B sd f T) = zEv true (d + 8) 283 73 [(30, 197, z0), (0, lv, y), (0, k, 0), (0, w + u, 0)] [] (rm B sd f T) := by
        rw [e283_73]
        simp (disch := first | assumption | exact zrm0 | exact zrm1 _ | exact zrm2 _ _ | exact zrm3 _ _ _ | exact zrm4 _ _ _ _ | omega) only [m283, ↓k_dp, ↓k_dn, k_dp, k_dn, k_dT, k_dF, k_ip, k_in, if_true, if_false, ne_eq, not_true_eq_false, not_false_eq_true, Int.reduceAdd, zup_a, zup_e, zup_j, z32_id, k_al0, k_ic, k_pI, k_il1, k_s3r, k_ifne, k_ri, k_v2, k_gI, k_ifeq, k_v1r, k_isub, k_dup, k_iadd, k_goto, k_v1, k_is2, k_is3, k_il2, k_icge, k_il3, k_imul, k_v2r, k_inc2, k_gR, k_ist, k_ild, k_ildS, k_ildW, k_pZ, k_icne, k_ifle, zb0_some, zb1_some, e283_0, e283_1, e283_2, e283_5, e283_6, e283_7, e283_8, e283_11, e283_14, e283_17, e283_18, e283_19, e283_22, e283_25, e283_26, e283_27, e283_30, e283_31, e283_34, e283_37, e283_38, e283_41, e283_44, e283_46, e283_47, e283_50, e283_51, e283_52, e283_53, e283_54, e283_57, e283_58, e283_59, e283_62, e283_65, e283_66, e283_69, e283_70, e283_71, e283_72, e283_74, e283_75, e283_78, e283_81, e283_82, e283_85, e283_86, e283_87, e283_88, e283_89, e283_92, e283_93, e283_94, e283_97, e283_100, e283_104, e283_107, e283_108, e283_109, e283_110, e283_111, e283_114, e283_115, e283_116, e283_117, e283_118, e283_121, e283_122, e283_123, e283_126, e283_128, e283_129, e283_130, e283_131, e283_134, e283_135, e283_136, e283_137, e283_140, e283_141, e283_142, e283_143, e283_146, e283_147, e283_148, e283_149, e283_152, e283_153, e283_156, e283_157, e283_160, e283_161, e283_164, e283_165, e283_168, e283_169, e283_172, e283_173, e4, hg]
      rw [s1, e283_73]
      simp (disch := first | assumption | exact zrm0 | exact zrm1 _ | exact zrm2 _ _ | exact zrm3 _ _ _ | exact zrm4 _ _ _ _ | omega) only [m283, ↓k_dp, ↓k_dn, k_dp, k_dn, k_dT, k_dF, k_ip, k_in, if_true, if_false, ne_eq, not_true_eq_false, not_false_eq_true, Int.reduceAdd, zup_a, zup_e, zup_j, z32_id, k_al0, k_ic, k_pI, k_il1, k_s3r, k_ifne, k_ri, k_v2, k_gI, k_ifeq, k_v1r, k_isub, k_dup, k_iadd, k_goto, k_v1, k_is2, k_is3, k_il2, k_icge, k_il3, k_imul, k_v2r, k_inc2, k_gR, k_ist, k_ild, k_ildS, k_ildW, k_pZ, k_icne, k_ifle, zb0_some, zb1_some, e283_0, e283_1, e283_2, e283_5, e283_6, e283_7, e283_8, e283_11, e283_14, e283_17, e283_18, e283_19, e283_22, e283_25, e283_26, e283_27, e283_30, e283_31, e283_34, e283_37, e283_38, e283_41, e283_44, e283_46, e283_47, e283_50, e283_51, e283_52, e283_53, e283_54, e283_57, e283_58, e283_59, e283_62, e283_65, e283_66, e283_69, e283_70, e283_71, e283_72, e283_74, e283_75, e283_78, e283_81, e283_82, e283_85, e283_86, e283_87, e283_88, e283_89, e283_92, e283_93, e283_94, e283_97, e283_100, e283_104, e283_107, e283_108, e283_109, e283_110, e283_111, e283_114, e283_115, e283_116, e283_117, e283_118, e283_121, e283_122, e283_123, e283_126, e283_128, e283_129, e283_130, e283_131, e283_134, e283_135, e283_136, e283_137, e283_140, e283_141, e283_142, e283_143, e283_146, e283_147, e283_148, e283_149, e283_152, e283_153, e283_156, e283_157, e283_160, e283_161, e283_164, e283_165, e283_168, e283_169, e283_172, e283_173, e4]
/-! what stays of it -/
theorem m284 (ph : Bool) (d : Nat) (a x0 p0 y0 : Int) (M : zM) : zEm ph (d + 1) 284 [(30, a, x0), (0, p0, y0)] M = zEv ph d 284 0 [(30, a, x0), (0, p0, y0), (3, 0, 0), (3, 0, 0)] [] M := rfl
theorem e284_0 (ph : Bool) (d : Nat) (L st : List zV) (M : zM) : zEv ph d 284 0 L st M = zcont ph d 284 (zstep ph (zEm ph d) 0 1 0 [0] L st M) := zEv_step rfl
theorem e284_1 (ph : Bool) (d : Nat) (L st : List zV) (M : zM) : zEv ph d 284 1 L st M = zcont ph d 284 (zstep ph (zEm ph d) 5 2 0 [2] L st M) := zEv_step rfl
theorem e284_2 (ph : Bool) (d : Nat) (L st : List zV) (M : zM) : zEv ph d 284 2 L st M = zcont ph d 284 (zstep ph (zEm ph d) 2 3 0 [2] L st M) := zEv_step rfl
theorem e284_3 (ph : Bool) (d : Nat) (L st : List zV) (M : zM) : zEv ph d 284 3 L st M = zcont ph d 284 (zstep ph (zEm ph d) 0 5 0 [51] L st M) := zEv_step rfl
theorem e284_5 (ph : Bool) (d : Nat) (L st : List zV) (M : zM) : zEv ph d 284 5 L st M = zcont ph d 284 (zstep ph (zEm ph d) 49 8 46 [] L st M) := zEv_step rfl
theorem e284_8 (ph : Bool) (d : Nat) (L st : List zV) (M : zM) : zEv ph d 284 8 L st M = zcont ph d 284 (zstep ph (zEm ph d) 4 9 0 [0] L st M) := zEv_step rfl
theorem e284_9 (ph : Bool) (d : Nat) (L st : List zV) (M : zM) : zEv ph d 284 9 L st M = zcont ph d 284 (zstep ph (zEm ph d) 62 12 0 [30, 14, 2, 10, 368] L st M) := zEv_step rfl
theorem e284_12 (ph : Bool) (d : Nat) (L st : List zV) (M : zM) : zEv ph d 284 12 L st M = zcont ph d 284 (zstep ph (zEm ph d) 0 14 0 [75] L st M) := zEv_step rfl
theorem e284_14 (ph : Bool) (d : Nat) (L st : List zV) (M : zM) : zEv ph d 284 14 L st M = zcont ph d 284 (zstep ph (zEm ph d) 2 15 0 [2] L st M) := zEv_step rfl
theorem e284_15 (ph : Bool) (d : Nat) (L st : List zV) (M : zM) : zEv ph d 284 15 L st M = zcont ph d 284 (zstep ph (zEm ph d) 10 16 0 [] L st M) := zEv_step rfl
theorem e284_16 (ph : Bool) (d : Nat) (L st : List zV) (M : zM) : zEv ph d 284 16 L st M = zcont ph d 284 (zstep ph (zEm ph d) 85 17 0 [] L st M) := zEv_step rfl
theorem e284_17 (ph : Bool) (d : Nat) (L st : List zV) (M : zM) : zEv ph d 284 17 L st M = zcont ph d 284 (zstep ph (zEm ph d) 5 18 0 [3] L st M) := zEv_step rfl
theorem e284_18 (ph : Bool) (d : Nat) (L st : List zV) (M : zM) : zEv ph d 284 18 L st M = zcont ph d 284 (zstep ph (zEm ph d) 4 19 0 [0] L st M) := zEv_step rfl
theorem e284_19 (ph : Bool) (d : Nat) (L st : List zV) (M : zM) : zEv ph d 284 19 L st M = zcont ph d 284 (zstep ph (zEm ph d) 62 22 0 [30, 14, 2, 10, 368] L st M) := zEv_step rfl
theorem e284_22 (ph : Bool) (d : Nat) (L st : List zV) (M : zM) : zEv ph d 284 22 L st M = zcont ph d 284 (zstep ph (zEm ph d) 0 24 0 [75] L st M) := zEv_step rfl
theorem e284_24 (ph : Bool) (d : Nat) (L st : List zV) (M : zM) : zEv ph d 284 24 L st M = zcont ph d 284 (zstep ph (zEm ph d) 2 25 0 [2] L st M) := zEv_step rfl
theorem e284_25 (ph : Bool) (d : Nat) (L st : List zV) (M : zM) : zEv ph d 284 25 L st M = zcont ph d 284 (zstep ph (zEm ph d) 10 26 0 [] L st M) := zEv_step rfl
theorem e284_26 (ph : Bool) (d : Nat) (L st : List zV) (M : zM) : zEv ph d 284 26 L st M = zcont ph d 284 (zstep ph (zEm ph d) 4 27 0 [0] L st M) := zEv_step rfl
theorem e284_27 (ph : Bool) (d : Nat) (L st : List zV) (M : zM) : zEv ph d 284 27 L st M = zcont ph d 284 (zstep ph (zEm ph d) 62 30 0 [30, 18, 6, 10, 51] L st M) := zEv_step rfl
theorem e284_30 (ph : Bool) (d : Nat) (L st : List zV) (M : zM) : zEv ph d 284 30 L st M = zcont ph d 284 (zstep ph (zEm ph d) 2 31 0 [2] L st M) := zEv_step rfl
theorem e284_31 (ph : Bool) (d : Nat) (L st : List zV) (M : zM) : zEv ph d 284 31 L st M = zcont ph d 284 (zstep ph (zEm ph d) 85 32 0 [] L st M) := zEv_step rfl
theorem e284_32 (ph : Bool) (d : Nat) (L st : List zV) (M : zM) : zEv ph d 284 32 L st M = zcont ph d 284 (zstep ph (zEm ph d) 89 33 0 [] L st M) := zEv_step rfl
theorem e284_33 (ph : Bool) (d : Nat) (L st : List zV) (M : zM) : zEv ph d 284 33 L st M = zcont ph d 284 (zstep ph (zEm ph d) 4 34 0 [0] L st M) := zEv_step rfl
theorem e284_34 (ph : Bool) (d : Nat) (L st : List zV) (M : zM) : zEv ph d 284 34 L st M = zcont ph d 284 (zstep ph (zEm ph d) 62 37 0 [30, 18, 6, 10, 51] L st M) := zEv_step rfl
theorem e284_37 (ph : Bool) (d : Nat) (L st : List zV) (M : zM) : zEv ph d 284 37 L st M = zcont ph d 284 (zstep ph (zEm ph d) 2 38 0 [2] L st M) := zEv_step rfl
theorem e284_38 (ph : Bool) (d : Nat) (L st : List zV) (M : zM) : zEv ph d 284 38 L st M = zcont ph d 284 (zstep ph (zEm ph d) 2 39 0 [3] L st M) := zEv_step rfl
theorem e284_39 (ph : Bool) (d : Nat) (L st : List zV) (M : zM) : zEv ph d 284 39 L st M = zcont ph d 284 (zstep ph (zEm ph d) 89 40 0 [] L st M) := zEv_step rfl
theorem e284_40 (ph : Bool) (d : Nat) (L st : List zV) (M : zM) : zEv ph d 284 40 L st M = zcont ph d 284 (zstep ph (zEm ph d) 8 43 0 [2, 1] L st M) := zEv_step rfl
theorem e284_43 (ph : Bool) (d : Nat) (L st : List zV) (M : zM) : zEv ph d 284 43 L st M = zcont ph d 284 (zstep ph (zEm ph d) 52 46 2 [] L st M) := zEv_step rfl
theorem e284_46 (ph : Bool) (d : Nat) (L st : List zV) (M : zM) : zEv ph d 284 46 L st M = zcont ph d 284 (zstep ph (zEm ph d) 2 47 0 [1] L st M) := zEv_step rfl
theorem e284_47 (ph : Bool) (d : Nat) (L st : List zV) (M : zM) : zEv ph d 284 47 L st M = zcont ph d 284 (zstep ph (zEm ph d) 41 50 51 [] L st M) := zEv_step rfl
theorem e284_50 (ph : Bool) (d : Nat) (L st : List zV) (M : zM) : zEv ph d 284 50 L st M = zcont ph d 284 (zstep ph (zEm ph d) 83 51 0 [] L st M) := zEv_step rfl
theorem e284_51 (ph : Bool) (d : Nat) (L st : List zV) (M : zM) : zEv ph d 284 51 L st M = zcont ph d 284 (zstep ph (zEm ph d) 4 52 0 [0] L st M) := zEv_step rfl
theorem e284_52 (ph : Bool) (d : Nat) (L st : List zV) (M : zM) : zEv ph d 284 52 L st M = zcont ph d 284 (zstep ph (zEm ph d) 70 55 223 [1, 0, 30] L st M) := zEv_step rfl
theorem e284_55 (ph : Bool) (d : Nat) (L st : List zV) (M : zM) : zEv ph d 284 55 L st M = zcont ph d 284 (zstep ph (zEm ph d) 4 56 0 [0] L st M) := zEv_step rfl
theorem e284_56 (ph : Bool) (d : Nat) (L st : List zV) (M : zM) : zEv ph d 284 56 L st M = zcont ph d 284 (zstep ph (zEm ph d) 70 59 273 [1, 0, 30] L st M) := zEv_step rfl
theorem e284_59 (ph : Bool) (d : Nat) (L st : List zV) (M : zM) : zEv ph d 284 59 L st M = zcont ph d 284 (zstep ph (zEm ph d) 83 60 0 [] L st M) := zEv_step rfl
theorem r_swapL (d : Nat) (z0 s y : Int) (M : zM) : ∀ (m : Nat) (i : Int) (N : zM) (l3 : zV), i + m = 51 → 0 ≤ i → (∀ x y, ¬ ((x = 199 ∧ 75 ≤ y ∧ y < 126) ∨ (x = 203 ∧ 0 ≤ y ∧ y < 51)) → N x y = M x y) → (∀ a, 0 ≤ a → a < i → N 199 (75 + a) = M 203 a ∧ N 203 a = M 199 (75 + a)) → (∀ a, i ≤ a → a < 51 → N 199 (75 + a) = M 199 (75 + a) ∧ N 203 a = M 203 a) → ∃ N' l3', zEv true d 284 2 [(30, 197, z0), (0, s, y), (0, i, 0), l3] [] N = zEv true d 284 46 [(30, 197, z0), (0, s, y), (0, 51, 0), l3'] [] N' ∧ (∀ x y, ¬ ((x = 199 ∧ 75 ≤ y ∧ y < 126) ∨ (x = 203 ∧ 0 ≤ y ∧ y < 51)) → N' x y = M x y) ∧ ∀ a, 0 ≤ a → a < 51 → N' 199 (75 + a) = M 203 a ∧ N' 203 a = M 199 (75 + a)
  | 0, i, N, l3, hm, i0, h1, h2, h3 => by
    have hi : i = 51 := by omega
    subst hi
    refine ⟨N, l3, ?_, h1, h2⟩
    rw [e284_2]
    simp (disch := first | assumption | exact zrm0 | exact zrm1 _ | exact zrm2 _ _ | exact zrm3 _ _ _ | exact zrm4 _ _ _ _ | omega) only [m284, ↓k_dp, ↓k_dn, k_dp, k_dn, k_dT, k_dF, k_ip, k_in, if_true, if_false, ne_eq, not_true_eq_false, not_false_eq_true, Int.reduceAdd, zup_a, zup_e, zup_j, z32_id, k_ic, k_is2, k_il2, k_icge, k_al0, k_gR, k_iadd, k_ild, k_ildS, k_ildW, k_is3, k_ist, k_il3, k_inc2, k_goto, k_il1, k_ifne, k_rv, k_v1, zb0_some, zb1_some, e284_0, e284_1, e284_3, e284_5, e284_8, e284_9, e284_12, e284_14, e284_15, e284_16, e284_17, e284_18, e284_19, e284_22, e284_24, e284_25, e284_26, e284_27, e284_30, e284_31, e284_32, e284_33, e284_34, e284_37, e284_38, e284_39, e284_40, e284_43, e284_47, e284_50, e284_51, e284_52, e284_55, e284_56, e284_59]
  | m + 1, i, N, l3, hm, i0, h1, h2, h3 => by
    obtain ⟨q1, q2⟩ := h3 i (Int.le_refl _) (by omega)
    obtain ⟨N', l3', n1, n2, n3⟩ := r_swapL d z0 s y M m (i + 1) (zup (zup N 199 (75 + i) (M 203 i)) 203 i (M 199 (75 + i))) (0, M 199 (75 + i), 0) (by omega) (by omega) (fun x y h => by
      rw [zup_f (by omega), zup_f (by omega)]
      exact h1 x y h) (fun a a0 a1 => by
      by_cases c : a = i
      · subst c
        rw [zup_f (by omega), zup_e (by omega), zup_e (by omega)]
        exact ⟨rfl, rfl⟩
      · rw [zup_f (by omega), zup_f (by omega), zup_f (by omega), zup_f (by omega)]
        exact h2 a a0 (by omega)) (fun a a0 a1 => by
      rw [zup_f (by omega), zup_f (by omega), zup_f (by omega), zup_f (by omega)]
      exact h3 a (by omega) a1)
    refine ⟨N', l3', ?_, n2, n3⟩
    rw [← n1, e284_2]
    simp (disch := first | assumption | exact zrm0 | exact zrm1 _ | exact zrm2 _ _ | exact zrm3 _ _ _ | exact zrm4 _ _ _ _ | omega) only [m284, ↓k_dp, ↓k_dn, k_dp, k_dn, k_dT, k_dF, k_ip, k_in, if_true, if_false, ne_eq, not_true_eq_false, not_false_eq_true, Int.reduceAdd, zup_a, zup_e, zup_j, z32_id, k_ic, k_is2, k_il2, k_icge, k_al0, k_gR, k_iadd, k_ild, k_ildS, k_ildW, k_is3, k_ist, k_il3, k_inc2, k_goto, k_il1, k_ifne, k_rv, k_v1, zb0_some, zb1_some, e284_0, e284_1, e284_3, e284_5, e284_8, e284_9, e284_12, e284_14, e284_15, e284_16, e284_17, e284_18, e284_19, e284_22, e284_24, e284_25, e284_26, e284_27, e284_30, e284_31, e284_32, e284_33, e284_34, e284_37, e284_38, e284_39, e284_40, e284_43, e284_47, e284_50, e284_51, e284_52, e284_55, e284_56, e284_59, q1, q2]
theorem r_stay (d : Nat) (z0 : Int) (B : zM) : ∃ W, (∀ x y, ¬ ((x = 199 ∧ 75 ≤ y ∧ y < 126) ∨ (x = 203 ∧ 0 ≤ y ∧ y < 51)) → W x y = B x y) ∧ (∀ a, 0 ≤ a → a < 51 → W 199 (75 + a) = B 203 a ∧ W 203 a = B 199 (75 + a)) ∧ (∀ y, zEm true (d + 2) 284 [(30, 197, z0), (0, 0, y)] B = some ((98, 0, 0), W)) ∧ (0 ≤ B 197 24 → B 197 24 ≤ 8 → ∀ y, zEm true (d + 2) 284 [(30, 197, z0), (0, 1, y)] B = some ((98, 0, 0), zcpy (mSnap W) 203 0 199 75 51)) := by
  have run : ∀ s y, ∃ N' l3', zEm true (d + 2) 284 [(30, 197, z0), (0, s, y)] B = zEv true (d + 1) 284 46 [(30, 197, z0), (0, s, y), (0, 51, 0), l3'] [] N' ∧ (∀ x y, ¬ ((x = 199 ∧ 75 ≤ y ∧ y < 126) ∨ (x = 203 ∧ 0 ≤ y ∧ y < 51)) → N' x y = B x y) ∧ ∀ a, 0 ≤ a → a < 51 → N' 199 (75 + a) = B 203 a ∧ N' 203 a = B 199 (75 + a) := fun s y => by
    obtain ⟨N', l3', n1, n2, n3⟩ := r_swapL (d + 1) z0 s y B 51 0 B (3, 0, 0) (by omega) (by omega) (fun _ _ _ => rfl) (fun a a0 a1 => by omega) (fun _ _ _ => ⟨rfl, rfl⟩)
    refine ⟨N', l3', ?_, n2, n3⟩
    rw [← n1]
    simp (disch := first | assumption | exact zrm0 | exact zrm1 _ | exact zrm2 _ _ | exact zrm3 _ _ _ | exact zrm4 _ _ _ _ | omega) only [m284, ↓k_dp, ↓k_dn, k_dp, k_dn, k_dT, k_dF, k_ip, k_in, if_true, if_false, ne_eq, not_true_eq_false, not_false_eq_true, Int.reduceAdd, zup_a, zup_e, zup_j, z32_id, k_ic, k_is2, k_il2, k_icge, k_al0, k_gR, k_iadd, k_ild, k_ildS, k_ildW, k_is3, k_ist, k_il3, k_inc2, k_goto, k_il1, k_ifne, k_rv, k_v1, zb0_some, zb1_some, e284_0, e284_1, e284_3, e284_5, e284_8, e284_9, e284_12, e284_14, e284_15, e284_16, e284_17, e284_18, e284_19, e284_22, e284_24, e284_25, e284_26, e284_27, e284_30, e284_31, e284_32, e284_33, e284_34, e284_37, e284_38, e284_39, e284_40, e284_43, e284_46, e284_47, e284_50, e284_51, e284_52, e284_55, e284_56, e284_59]
  obtain ⟨W, l3, a1, a2, a3⟩ := run 0 0
  have uni : ∀ N', (∀ x y, ¬ ((x = 199 ∧ 75 ≤ y ∧ y < 126) ∨ (x = 203 ∧ 0 ≤ y ∧ y < 51)) → N' x y = B x y) → (∀ a, 0 ≤ a → a < 51 → N' 199 (75 + a) = B 203 a ∧ N' 203 a = B 199 (75 + a)) → N' = W := fun N' h1 h2 => by
    funext x y
    by_cases c1 : x = 199 ∧ 75 ≤ y ∧ y < 126
    · obtain ⟨rfl, c2, c3⟩ := c1
      have e1 := (h2 (y - 75) (by omega) (by omega)).1
      have e2 := (a3 (y - 75) (by omega) (by omega)).1
      rw [show 75 + (y - 75) = y by omega] at e1 e2
      rw [e1, e2]
    · by_cases c2 : x = 203 ∧ 0 ≤ y ∧ y < 51
      · obtain ⟨rfl, c2, c3⟩ := c2
        rw [(h2 y c2 c3).2, (a3 y c2 c3).2]
      · rw [h1 x y (by omega), a2 x y (by omega)]
  refine ⟨W, a2, a3, fun y => ?_, fun n0 n1 y => ?_⟩
  · obtain ⟨N', l3', b1, b2, b3⟩ := run 0 y
    rw [b1, uni N' b2 b3]
    simp (disch := first | assumption | exact zrm0 | exact zrm1 _ | exact zrm2 _ _ | exact zrm3 _ _ _ | exact zrm4 _ _ _ _ | omega) only [m284, ↓k_dp, ↓k_dn, k_dp, k_dn, k_dT, k_dF, k_ip, k_in, if_true, if_false, ne_eq, not_true_eq_false, not_false_eq_true, Int.reduceAdd, zup_a, zup_e, zup_j, z32_id, k_ic, k_is2, k_il2, k_icge, k_al0, k_gR, k_iadd, k_ild, k_ildS, k_ildW, k_is3, k_ist, k_il3, k_inc2, k_goto, k_il1, k_ifne, k_rv, k_v1, zb0_some, zb1_some, e284_0, e284_1, e284_3, e284_5, e284_8, e284_9, e284_12, e284_14, e284_15, e284_16, e284_17, e284_18, e284_19, e284_22, e284_24, e284_25, e284_26, e284_27, e284_30, e284_31, e284_32, e284_33, e284_34, e284_37, e284_38, e284_39, e284_40, e284_43, e284_46, e284_47, e284_50, e284_51, e284_52, e284_55, e284_56, e284_59]
  · obtain ⟨N', l3', b1, b2, b3⟩ := run 1 y
    rw [b1, uni N' b2 b3]
    have e24 : W 197 24 = B 197 24 := a2 _ _ (by omega)
    have hs := r_snap d z0 W (by rw [e24]; exact n0) (by rw [e24]; exact n1)
    have ht := r_takeBack d z0 (mSnap W)
    simp (disch := first | assumption | exact zrm0 | exact zrm1 _ | exact zrm2 _ _ | exact zrm3 _ _ _ | exact zrm4 _ _ _ _ | omega) only [m284, ↓k_dp, ↓k_dn, k_dp, k_dn, k_dT, k_dF, k_ip, k_in, if_true, if_false, ne_eq, not_true_eq_false, not_false_eq_true, Int.reduceAdd, zup_a, zup_e, zup_j, z32_id, k_ic, k_is2, k_il2, k_icge, k_al0, k_gR, k_iadd, k_ild, k_ildS, k_ildW, k_is3, k_ist, k_il3, k_inc2, k_goto, k_il1, k_ifne, k_rv, k_v1, zb0_some, zb1_some, e284_0, e284_1, e284_3, e284_5, e284_8, e284_9, e284_12, e284_14, e284_15, e284_16, e284_17, e284_18, e284_19, e284_22, e284_24, e284_25, e284_26, e284_27, e284_30, e284_31, e284_32, e284_33, e284_34, e284_37, e284_38, e284_39, e284_40, e284_43, e284_46, e284_47, e284_50, e284_51, e284_52, e284_55, e284_56, e284_59, hs, ht]
