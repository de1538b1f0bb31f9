/-! the reference: how loud, what is so, acts -/
theorem tdiv2 {x : Int} (h : 0 ≤ x) : Int.tdiv x 2 = x / 2 := Int.tdiv_eq_ediv_of_nonneg h
def okS (S : zM) : Prop := (0 ≤ S 0 8 ∧ S 0 8 < 1024) ∧ (0 ≤ S 0 9 ∧ S 0 9 ≤ 2) ∧ (0 ≤ S 0 10 ∧ S 0 10 ≤ 400) ∧ (∀ k, 0 ≤ k → k < 10 → 0 ≤ S 1 k ∧ S 1 k ≤ 20) ∧ (∀ k, 0 ≤ k → k < 10 → 0 ≤ S 2 k ∧ S 2 k ≤ 999) ∧ (∀ k, 0 ≤ k → k < 5 → 0 ≤ S 3 k ∧ S 3 k < 1024) ∧ (∀ k, 0 ≤ k → k < 5 → 0 ≤ S 4 k ∧ S 4 k < 1024) ∧ (∀ k, 0 ≤ k → k < 5 → 0 ≤ S 5 k ∧ S 5 k ≤ 2) ∧ (∀ k, 0 ≤ k → k < 5 → -1 ≤ S 6 k ∧ S 6 k ≤ S 0 10) ∧ (∀ k, 0 ≤ k → k < 5 → -1 ≤ S 7 k ∧ S 7 k ≤ 1000) ∧ (∀ k, 0 ≤ k → k < 2 → 0 ≤ S 8 k ∧ S 8 k ≤ 20)
theorem sNoise_key {V s : Int} (h : 0 ≤ V) (h2 : V ≤ 2000) (h3 : 0 ≤ s) (h4 : s ≤ 20) : (if 0 < z32 (V - s) then z32 (V - s) else 0) = if s < V then V - s else 0 := by
  rw [z32_id (by omega) (by omega)]
  by_cases c : s < V
  · rw [if_pos (by omega), if_pos c]
  · rw [if_neg (by omega), if_neg c]
def sDbl (ch ir h : Int) : Int := if zbit ch h ≠ 0 then z32 (ir * 2) else ir
def sHalf (wea v : Int) : Int := if wea = 1 then z32 (Int.tdiv v 2) else v
def sCut (v sand : Int) : Int := if 0 < z32 (v - sand) then z32 (v - sand) else 0
theorem sNoise_eq {sil ch wea sand ir h : Int} : sNoise sil ch wea sand ir h = if zbit sil h ≠ 0 then 0 else sCut (sHalf wea (sDbl ch ir h)) sand := rfl
theorem sDbl_bd {ch ir h : Int} (i0 : 0 ≤ ir) (i1 : ir ≤ 1000) : 0 ≤ sDbl ch ir h ∧ sDbl ch ir h ≤ 2 * ir := by
  unfold sDbl
  split
  · rw [z32_id (by omega) (by omega)]; omega
  · omega
theorem sHalf_bd {wea v : Int} (i0 : 0 ≤ v) (i1 : v ≤ 2000) : 0 ≤ sHalf wea v ∧ sHalf wea v ≤ v := by
  unfold sHalf
  split
  · rw [tdiv2 i0, z32_id (by omega) (by omega)]; omega
  · omega
theorem sNoise_bd {sil ch wea sand ir h : Int} (i0 : 0 ≤ ir) (i1 : ir ≤ 1000) (s0 : 0 ≤ sand) (s1 : sand ≤ 20) : 0 ≤ sNoise sil ch wea sand ir h ∧ sNoise sil ch wea sand ir h ≤ 2 * ir := by
  rw [sNoise_eq]
  split
  · omega
  have h1 := sDbl_bd (ch := ch) (h := h) i0 i1
  have h2 := sHalf_bd (wea := wea) h1.1 (by omega)
  unfold sCut
  rw [sNoise_key h2.1 (by omega) s0 s1]
  split <;> omega
theorem sHn_bd {S G : zM} {h w : Int} (hS : okS S) (h0 : 0 ≤ h) (h1 : h < 10) (w0 : 0 ≤ w) (w1 : w < 2) : 0 ≤ sHn S G h w 0 ∧ sHn S G h w 0 ≤ 40 := by
  obtain ⟨-, -, -, hI, -, -, -, -, -, -, hs⟩ := hS
  have := hI h h0 h1
  have := hs w w0 w1
  unfold sHn
  rw [Int.add_zero, z32_id (by omega) (by omega)]
  have := sNoise_bd (sil := S 0 8) (ch := G 0 9) (wea := S 0 9) (sand := S 8 w) (ir := S 1 h) (h := h) (by omega) (by omega) (by omega) (by omega)
  omega
theorem sSum_bd {S G : zM} {g w : Int} (hS : okS S) (hG : okG G) (w0 : 0 ≤ w) (w1 : w < 2) : 0 ≤ sSum S G g w ∧ sSum S G g w ≤ 400 := by
  obtain ⟨-, ⟨g1, g2⟩, -⟩ := hG
  have := zit_inv (f := fun h v => if zbit g h ≠ 0 then z32 (v + sHn S G h w 0) else v) (fun k v => 0 ≤ v ∧ v ≤ 40 * k) (G 0 7).toNat 0 0 (by omega) (fun k b h1 h2 hb => by
    have := sHn_bd (G := G) hS (h := k) (w := w) (by omega) (by omega) w0 w1
    split
    · rw [z32_id (by omega) (by omega)]; omega
    · omega)
  unfold sSum
  omega
theorem sWay_bd {S G : zM} {g w : Int} (hS : okS S) (hG : okG G) (w0 : 0 ≤ w) (w1 : w < 2) : 0 ≤ sWay S G g w ∧ sWay S G g w ≤ 500 := by
  have := sSum_bd (g := g) hS hG w0 w1
  obtain ⟨-, -, -, -, -, -, -, -, he⟩ := hG
  have := he w w0 w1
  unfold sWay
  split
  · rw [z32_id (by omega) (by omega)]; omega
  · omega
theorem okR_M {M : zM} (h : okG (zrG M)) : (0 ≤ M 199 0 ∧ M 199 0 ≤ 5) ∧ (0 ≤ M 199 1 ∧ M 199 1 ≤ 10) ∧ (0 ≤ M 199 2 ∧ M 199 2 ≤ 5) ∧ (0 ≤ M 199 39 ∧ M 199 39 < 1024) ∧ (1 ≤ M 199 3 ∧ M 199 3 ≤ 9) ∧ (0 ≤ M 199 4 ∧ M 199 4 ≤ 9) ∧ (∀ k, 0 ≤ k → k < M 199 1 → 0 ≤ M 199 (9 + k) ∧ M 199 (9 + k) < M 199 0) := by
  obtain ⟨h1, h2, h3, h4, h5, h6, h7, h8, h9⟩ := h
  rw [zrG_06] at h1; rw [zrG_07] at h2; rw [zrG_08] at h3; rw [zrG_09] at h4; rw [zrG_0t] at h5; rw [zrG_0e] at h6
  refine ⟨h1, h2, h3, h4, h5, h6, fun k k0 k1 => ?_⟩
  have := h7 k k0 (by rw [zrG_07]; exact k1)
  rwa [zrG_4 k0 (by omega) k1, zrG_06] at this
theorem r_noiseBy (d : Nat) (x0 h y w y2 ir y3 : Int) (M : zM) (hS : okS (zrS M)) (h0 : 0 ≤ h) (h1 : h < 10) (w0 : 0 ≤ w) (w1 : w < 2) (i0 : 0 ≤ ir) (i1 : ir ≤ 1000) : zEm true (d + 2) 209 [(30, 197, x0), (0, h, y), (0, w, y2), (0, ir, y3)] M = some ((0, sNoise (zrS M 0 8) (zrG M 0 9) (zrS M 0 9) (zrS M 8 w) ir h, 0), M) := by
  have hs := hS.2.2.2.2.2.2.2.2.2.2 w w0 w1
  rw [sNoise_eq, zrS_08, zrS_09, zrG_09]
  rw [zrS_8 w0 w1] at hs ⊢
  have hm : 2 * ir = ir * 2 := Int.mul_comm 2 ir
  have h1 := sDbl_bd (ch := M 199 39) (h := h) i0 i1
  have h2 := sHalf_bd (wea := M 199 76) h1.1 (by omega)
  unfold sCut
  rw [sNoise_key h2.1 (by omega) hs.1 hs.2]
  by_cases c1 : zbit (M 199 77) h = 0
  · by_cases c2 : zbit (M 199 39) h = 0
    · have e : sDbl (M 199 39) ir h = ir := by unfold sDbl; rw [if_neg (fun z => z c2)]
      rw [e] at h2 ⊢
      by_cases c3 : M 199 76 = 1
      · have e2 : sHalf (M 199 76) ir = ir / 2 := by unfold sHalf; rw [if_pos c3, tdiv2 i0, z32_id (by omega) (by omega)]
        rw [e2]
        by_cases c4 : M 199 (79 + w) < ir / 2
        · simp (disch := first | assumption | exact zrm0 | exact zrm1 _ | exact zrm2 _ _ | exact zrm3 _ _ _ | exact zrm4 _ _ _ _ | omega) only [m209, ↓k_dp, ↓k_dn, k_dp, k_dn, k_dT, k_dF, k_ip, k_in, if_true, if_false, ne_eq, not_true_eq_false, not_false_eq_true, Int.reduceAdd, zup_a, zup_e, zup_j, z32_id, k_al0, k_gR, k_ic, k_ild, k_ildS, k_ildW, k_il1, k_s2r, k_ifeq, k_ri, k_il3, k_imul, k_goto, k_is4, k_icne, k_il4, k_idiv, k_il2, k_iadd, k_icle, k_isub, zb0_some, zb1_some, e209_0, e209_1, e209_4, e209_6, e209_7, e209_8, e209_11, e209_14, e209_15, e209_16, e209_17, e209_20, e209_22, e209_23, e209_24, e209_27, e209_30, e209_31, e209_32, e209_33, e209_36, e209_37, e209_39, e209_40, e209_43, e209_45, e209_46, e209_47, e209_50, e209_52, e209_53, e209_54, e209_56, e209_58, e209_59, e209_62, e209_64, e209_65, e209_66, e209_67, e209_70, e209_72, e209_73, e209_76, e209_78, e209_79, e209_80, e209_81, e209_82, e209_85, e209_86, r_has, c1, c2, c3, tdiv2]
        · simp (disch := first | assumption | exact zrm0 | exact zrm1 _ | exact zrm2 _ _ | exact zrm3 _ _ _ | exact zrm4 _ _ _ _ | omega) only [m209, ↓k_dp, ↓k_dn, k_dp, k_dn, k_dT, k_dF, k_ip, k_in, if_true, if_false, ne_eq, not_true_eq_false, not_false_eq_true, Int.reduceAdd, zup_a, zup_e, zup_j, z32_id, k_al0, k_gR, k_ic, k_ild, k_ildS, k_ildW, k_il1, k_s2r, k_ifeq, k_ri, k_il3, k_imul, k_goto, k_is4, k_icne, k_il4, k_idiv, k_il2, k_iadd, k_icle, k_isub, zb0_some, zb1_some, e209_0, e209_1, e209_4, e209_6, e209_7, e209_8, e209_11, e209_14, e209_15, e209_16, e209_17, e209_20, e209_22, e209_23, e209_24, e209_27, e209_30, e209_31, e209_32, e209_33, e209_36, e209_37, e209_39, e209_40, e209_43, e209_45, e209_46, e209_47, e209_50, e209_52, e209_53, e209_54, e209_56, e209_58, e209_59, e209_62, e209_64, e209_65, e209_66, e209_67, e209_70, e209_72, e209_73, e209_76, e209_78, e209_79, e209_80, e209_81, e209_82, e209_85, e209_86, r_has, c1, c2, c3, tdiv2]
      · have e2 : sHalf (M 199 76) ir = ir := by unfold sHalf; rw [if_neg c3]
        rw [e2]
        by_cases c4 : M 199 (79 + w) < ir
        · simp (disch := first | assumption | exact zrm0 | exact zrm1 _ | exact zrm2 _ _ | exact zrm3 _ _ _ | exact zrm4 _ _ _ _ | omega) only [m209, ↓k_dp, ↓k_dn, k_dp, k_dn, k_dT, k_dF, k_ip, k_in, if_true, if_false, ne_eq, not_true_eq_false, not_false_eq_true, Int.reduceAdd, zup_a, zup_e, zup_j, z32_id, k_al0, k_gR, k_ic, k_ild, k_ildS, k_ildW, k_il1, k_s2r, k_ifeq, k_ri, k_il3, k_imul, k_goto, k_is4, k_icne, k_il4, k_idiv, k_il2, k_iadd, k_icle, k_isub, zb0_some, zb1_some, e209_0, e209_1, e209_4, e209_6, e209_7, e209_8, e209_11, e209_14, e209_15, e209_16, e209_17, e209_20, e209_22, e209_23, e209_24, e209_27, e209_30, e209_31, e209_32, e209_33, e209_36, e209_37, e209_39, e209_40, e209_43, e209_45, e209_46, e209_47, e209_50, e209_52, e209_53, e209_54, e209_56, e209_58, e209_59, e209_62, e209_64, e209_65, e209_66, e209_67, e209_70, e209_72, e209_73, e209_76, e209_78, e209_79, e209_80, e209_81, e209_82, e209_85, e209_86, r_has, c1, c2, c3, tdiv2]
        · simp (disch := first | assumption | exact zrm0 | exact zrm1 _ | exact zrm2 _ _ | exact zrm3 _ _ _ | exact zrm4 _ _ _ _ | omega) only [m209, ↓k_dp, ↓k_dn, k_dp, k_dn, k_dT, k_dF, k_ip, k_in, if_true, if_false, ne_eq, not_true_eq_false, not_false_eq_true, Int.reduceAdd, zup_a, zup_e, zup_j, z32_id, k_al0, k_gR, k_ic, k_ild, k_ildS, k_ildW, k_il1, k_s2r, k_ifeq, k_ri, k_il3, k_imul, k_goto, k_is4, k_icne, k_il4, k_idiv, k_il2, k_iadd, k_icle, k_isub, zb0_some, zb1_some, e209_0, e209_1, e209_4, e209_6, e209_7, e209_8, e209_11, e209_14, e209_15, e209_16, e209_17, e209_20, e209_22, e209_23, e209_24, e209_27, e209_30, e209_31, e209_32, e209_33, e209_36, e209_37, e209_39, e209_40, e209_43, e209_45, e209_46, e209_47, e209_50, e209_52, e209_53, e209_54, e209_56, e209_58, e209_59, e209_62, e209_64, e209_65, e209_66, e209_67, e209_70, e209_72, e209_73, e209_76, e209_78, e209_79, e209_80, e209_81, e209_82, e209_85, e209_86, r_has, c1, c2, c3, tdiv2]
    · have e : sDbl (M 199 39) ir h = ir * 2 := by unfold sDbl; rw [if_pos c2, z32_id (by omega) (by omega)]
      rw [e] at h2 ⊢
      by_cases c3 : M 199 76 = 1
      · have e2 : sHalf (M 199 76) (ir * 2) = ir * 2 / 2 := by unfold sHalf; rw [if_pos c3, tdiv2 (by omega), z32_id (by omega) (by omega)]
        rw [e2]
        by_cases c4 : M 199 (79 + w) < ir * 2 / 2
        · simp (disch := first | assumption | exact zrm0 | exact zrm1 _ | exact zrm2 _ _ | exact zrm3 _ _ _ | exact zrm4 _ _ _ _ | omega) only [m209, ↓k_dp, ↓k_dn, k_dp, k_dn, k_dT, k_dF, k_ip, k_in, if_true, if_false, ne_eq, not_true_eq_false, not_false_eq_true, Int.reduceAdd, zup_a, zup_e, zup_j, z32_id, k_al0, k_gR, k_ic, k_ild, k_ildS, k_ildW, k_il1, k_s2r, k_ifeq, k_ri, k_il3, k_imul, k_goto, k_is4, k_icne, k_il4, k_idiv, k_il2, k_iadd, k_icle, k_isub, zb0_some, zb1_some, e209_0, e209_1, e209_4, e209_6, e209_7, e209_8, e209_11, e209_14, e209_15, e209_16, e209_17, e209_20, e209_22, e209_23, e209_24, e209_27, e209_30, e209_31, e209_32, e209_33, e209_36, e209_37, e209_39, e209_40, e209_43, e209_45, e209_46, e209_47, e209_50, e209_52, e209_53, e209_54, e209_56, e209_58, e209_59, e209_62, e209_64, e209_65, e209_66, e209_67, e209_70, e209_72, e209_73, e209_76, e209_78, e209_79, e209_80, e209_81, e209_82, e209_85, e209_86, r_has, c1, c2, c3, tdiv2, hm]
        · simp (disch := first | assumption | exact zrm0 | exact zrm1 _ | exact zrm2 _ _ | exact zrm3 _ _ _ | exact zrm4 _ _ _ _ | omega) only [m209, ↓k_dp, ↓k_dn, k_dp, k_dn, k_dT, k_dF, k_ip, k_in, if_true, if_false, ne_eq, not_true_eq_false, not_false_eq_true, Int.reduceAdd, zup_a, zup_e, zup_j, z32_id, k_al0, k_gR, k_ic, k_ild, k_ildS, k_ildW, k_il1, k_s2r, k_ifeq, k_ri, k_il3, k_imul, k_goto, k_is4, k_icne, k_il4, k_idiv, k_il2, k_iadd, k_icle, k_isub, zb0_some, zb1_some, e209_0, e209_1, e209_4, e209_6, e209_7, e209_8, e209_11, e209_14, e209_15, e209_16, e209_17, e209_20, e209_22, e209_23, e209_24, e209_27, e209_30, e209_31, e209_32, e209_33, e209_36, e209_37, e209_39, e209_40, e209_43, e209_45, e209_46, e209_47, e209_50, e209_52, e209_53, e209_54, e209_56, e209_58, e209_59, e209_62, e209_64, e209_65, e209_66, e209_67, e209_70, e209_72, e209_73, e209_76, e209_78, e209_79, e209_80, e209_81, e209_82, e209_85, e209_86, r_has, c1, c2, c3, tdiv2, hm]
      · have e2 : sHalf (M 199 76) (ir * 2) = ir * 2 := by unfold sHalf; rw [if_neg c3]
        rw [e2]
        by_cases c4 : M 199 (79 + w) < ir * 2
        · simp (disch := first | assumption | exact zrm0 | exact zrm1 _ | exact zrm2 _ _ | exact zrm3 _ _ _ | exact zrm4 _ _ _ _ | omega) only [m209, ↓k_dp, ↓k_dn, k_dp, k_dn, k_dT, k_dF, k_ip, k_in, if_true, if_false, ne_eq, not_true_eq_false, not_false_eq_true, Int.reduceAdd, zup_a, zup_e, zup_j, z32_id, k_al0, k_gR, k_ic, k_ild, k_ildS, k_ildW, k_il1, k_s2r, k_ifeq, k_ri, k_il3, k_imul, k_goto, k_is4, k_icne, k_il4, k_idiv, k_il2, k_iadd, k_icle, k_isub, zb0_some, zb1_some, e209_0, e209_1, e209_4, e209_6, e209_7, e209_8, e209_11, e209_14, e209_15, e209_16, e209_17, e209_20, e209_22, e209_23, e209_24, e209_27, e209_30, e209_31, e209_32, e209_33, e209_36, e209_37, e209_39, e209_40, e209_43, e209_45, e209_46, e209_47, e209_50, e209_52, e209_53, e209_54, e209_56, e209_58, e209_59, e209_62, e209_64, e209_65, e209_66, e209_67, e209_70, e209_72, e209_73, e209_76, e209_78, e209_79, e209_80, e209_81, e209_82, e209_85, e209_86, r_has, c1, c2, c3, tdiv2, hm]
        · simp (disch := first | assumption | exact zrm0 | exact zrm1 _ | exact zrm2 _ _ | exact zrm3 _ _ _ | exact zrm4 _ _ _ _ | omega) only [m209, ↓k_dp, ↓k_dn, k_dp, k_dn, k_dT, k_dF, k_ip, k_in, if_true, if_false, ne_eq, not_true_eq_false, not_false_eq_true, Int.reduceAdd, zup_a, zup_e, zup_j, z32_id, k_al0, k_gR, k_ic, k_ild, k_ildS, k_ildW, k_il1, k_s2r, k_ifeq, k_ri, k_il3, k_imul, k_goto, k_is4, k_icne, k_il4, k_idiv, k_il2, k_iadd, k_icle, k_isub, zb0_some, zb1_some, e209_0, e209_1, e209_4, e209_6, e209_7, e209_8, e209_11, e209_14, e209_15, e209_16, e209_17, e209_20, e209_22, e209_23, e209_24, e209_27, e209_30, e209_31, e209_32, e209_33, e209_36, e209_37, e209_39, e209_40, e209_43, e209_45, e209_46, e209_47, e209_50, e209_52, e209_53, e209_54, e209_56, e209_58, e209_59, e209_62, e209_64, e209_65, e209_66, e209_67, e209_70, e209_72, e209_73, e209_76, e209_78, e209_79, e209_80, e209_81, e209_82, e209_85, e209_86, r_has, c1, c2, c3, tdiv2, hm]
  · simp (disch := first | assumption | exact zrm0 | exact zrm1 _ | exact zrm2 _ _ | exact zrm3 _ _ _ | exact zrm4 _ _ _ _ | omega) only [m209, ↓k_dp, ↓k_dn, k_dp, k_dn, k_dT, k_dF, k_ip, k_in, if_true, if_false, ne_eq, not_true_eq_false, not_false_eq_true, Int.reduceAdd, zup_a, zup_e, zup_j, z32_id, k_al0, k_gR, k_ic, k_ild, k_ildS, k_ildW, k_il1, k_s2r, k_ifeq, k_ri, k_il3, k_imul, k_goto, k_is4, k_icne, k_il4, k_idiv, k_il2, k_iadd, k_icle, k_isub, zb0_some, zb1_some, e209_0, e209_1, e209_4, e209_6, e209_7, e209_8, e209_11, e209_14, e209_15, e209_16, e209_17, e209_20, e209_22, e209_23, e209_24, e209_27, e209_30, e209_31, e209_32, e209_33, e209_36, e209_37, e209_39, e209_40, e209_43, e209_45, e209_46, e209_47, e209_50, e209_52, e209_53, e209_54, e209_56, e209_58, e209_59, e209_62, e209_64, e209_65, e209_66, e209_67, e209_70, e209_72, e209_73, e209_76, e209_78, e209_79, e209_80, e209_81, e209_82, e209_85, e209_86, r_has, c1]
theorem r_noiseOf (d : Nat) (x0 h y w y2 : Int) (M : zM) (hS : okS (zrS M)) (h0 : 0 ≤ h) (h1 : h < 10) (w0 : 0 ≤ w) (w1 : w < 2) : zEm true (d + 3) 210 [(30, 197, x0), (0, h, y), (0, w, y2)] M = some ((0, sHn (zrS M) (zrG M) h w 0, 0), M) := by
  have hi := hS.2.2.2.1 h h0 h1
  unfold sHn
  rw [Int.add_zero, z32_id (by omega) (by omega)]
  rw [zrS_1 h0 h1] at hi ⊢
  simp (disch := first | assumption | exact zrm0 | exact zrm1 _ | exact zrm2 _ _ | exact zrm3 _ _ _ | exact zrm4 _ _ _ _ | omega) only [m210, ↓k_dp, ↓k_dn, k_dp, k_dn, k_dT, k_dF, k_ip, k_in, if_true, if_false, ne_eq, not_true_eq_false, not_false_eq_true, Int.reduceAdd, zup_a, zup_e, zup_j, z32_id, k_al0, k_il1, k_il2, k_gR, k_ic, k_iadd, k_ild, k_ildS, k_ildW, k_v4r, k_ri, zb0_some, zb1_some, e210_0, e210_1, e210_2, e210_3, e210_4, e210_7, e210_9, e210_10, e210_11, e210_12, e210_15, r_noiseBy]
theorem r_echoed (d : Nat) (x0 v y w y2 : Int) (M : zM) (w0 : 0 ≤ w) (w1 : w < 2) : zEm true (d + 1) 211 [(30, 197, x0), (0, v, y), (0, w, y2)] M = some ((0, if 0 < v then z32 (v + zrG M 6 w) else 0, 0), M) := by
  rw [zrG_6 w0 w1]
  by_cases c : 0 < v
  · simp (disch := first | assumption | exact zrm0 | exact zrm1 _ | exact zrm2 _ _ | exact zrm3 _ _ _ | exact zrm4 _ _ _ _ | omega) only [m211, ↓k_dp, ↓k_dn, k_dp, k_dn, k_dT, k_dF, k_ip, k_in, if_true, if_false, ne_eq, not_true_eq_false, not_false_eq_true, Int.reduceAdd, zup_a, zup_e, zup_j, z32_id, k_il1, k_ifle, k_al0, k_gR, k_ic, k_il2, k_iadd, k_ild, k_ildS, k_ildW, k_goto, k_ri, e211_0, e211_1, e211_4, e211_5, e211_6, e211_9, e211_11, e211_12, e211_13, e211_14, e211_15, e211_18, e211_19]
  · simp (disch := first | assumption | exact zrm0 | exact zrm1 _ | exact zrm2 _ _ | exact zrm3 _ _ _ | exact zrm4 _ _ _ _ | omega) only [m211, ↓k_dp, ↓k_dn, k_dp, k_dn, k_dT, k_dF, k_ip, k_in, if_true, if_false, ne_eq, not_true_eq_false, not_false_eq_true, Int.reduceAdd, zup_a, zup_e, zup_j, z32_id, k_il1, k_ifle, k_al0, k_gR, k_ic, k_il2, k_iadd, k_ild, k_ildS, k_ildW, k_goto, k_ri, e211_0, e211_1, e211_4, e211_5, e211_6, e211_9, e211_11, e211_12, e211_13, e211_14, e211_15, e211_18, e211_19]
theorem r_noiseAll (d : Nat) (x0 g y w y2 : Int) (M : zM) (hS : okS (zrS M)) (hG : okG (zrG M)) (w0 : 0 ≤ w) (w1 : w < 2) : zEm true (d + 4) 212 [(30, 197, x0), (0, g, y), (0, w, y2)] M = some ((0, sWay (zrS M) (zrG M) g w, 0), M) := by
  obtain ⟨-, ⟨g1, g2⟩, -⟩ := okR_M hG
  have hl := zfor (ph := true) (d := d + 3) (j := 212) (pc := 5) (fun h v => if zbit g h ≠ 0 then z32 (v + sHn (zrS M) (zrG M) h w 0) else v) (fun h _ => 0 ≤ h) (fun h v => [(30, 197, x0), (0, g, y), (0, w, y2), (0, v, 0), (0, h, 0)]) (fun _ => M) (M 199 1)
    (fun k b hk hp => ⟨by
      rw [e212_5]
      by_cases c1 : zbit g k = 0
      · simp (disch := first | assumption | exact zrm0 | exact zrm1 _ | exact zrm2 _ _ | exact zrm3 _ _ _ | exact zrm4 _ _ _ _ | omega) only [m212, ↓k_dp, ↓k_dn, k_dp, k_dn, k_dT, k_dF, k_ip, k_in, if_true, if_false, ne_eq, not_true_eq_false, not_false_eq_true, Int.reduceAdd, zup_a, zup_e, zup_j, z32_id, k_ic, k_is3, k_is4, k_il4, k_al0, k_gR, k_ild, k_ildS, k_ildW, k_icge, k_il1, k_s2r, k_ifeq, k_il3, k_il2, k_v3r, k_iadd, k_inc4, k_goto, k_ri, zb0_some, zb1_some, e212_0, e212_1, e212_2, e212_3, e212_7, e212_8, e212_11, e212_12, e212_13, e212_16, e212_17, e212_19, e212_22, e212_25, e212_26, e212_27, e212_29, e212_30, e212_33, e212_34, e212_35, e212_38, e212_41, e212_42, e212_43, e212_44, e212_47, r_has, c1]
      · simp (disch := first | assumption | exact zrm0 | exact zrm1 _ | exact zrm2 _ _ | exact zrm3 _ _ _ | exact zrm4 _ _ _ _ | omega) only [m212, ↓k_dp, ↓k_dn, k_dp, k_dn, k_dT, k_dF, k_ip, k_in, if_true, if_false, ne_eq, not_true_eq_false, not_false_eq_true, Int.reduceAdd, zup_a, zup_e, zup_j, z32_id, k_ic, k_is3, k_is4, k_il4, k_al0, k_gR, k_ild, k_ildS, k_ildW, k_icge, k_il1, k_s2r, k_ifeq, k_il3, k_il2, k_v3r, k_iadd, k_inc4, k_goto, k_ri, zb0_some, zb1_some, e212_0, e212_1, e212_2, e212_3, e212_7, e212_8, e212_11, e212_12, e212_13, e212_16, e212_17, e212_19, e212_22, e212_25, e212_26, e212_27, e212_29, e212_30, e212_33, e212_34, e212_35, e212_38, e212_41, e212_42, e212_43, e212_44, e212_47, r_has, r_noiseOf, c1], by omega⟩) (M 199 1).toNat 0 0 (by omega) (Int.le_refl _)
  simp (disch := first | assumption | exact zrm0 | exact zrm1 _ | exact zrm2 _ _ | exact zrm3 _ _ _ | exact zrm4 _ _ _ _ | omega) only [m212, ↓k_dp, ↓k_dn, k_dp, k_dn, k_dT, k_dF, k_ip, k_in, if_true, if_false, ne_eq, not_true_eq_false, not_false_eq_true, Int.reduceAdd, zup_a, zup_e, zup_j, z32_id, k_ic, k_is3, k_is4, k_il4, k_al0, k_gR, k_ild, k_ildS, k_ildW, k_icge, k_il1, k_s2r, k_ifeq, k_il3, k_il2, k_v3r, k_iadd, k_inc4, k_goto, k_ri, zb0_some, zb1_some, e212_0, e212_1, e212_2, e212_3, e212_7, e212_8, e212_11, e212_12, e212_13, e212_16, e212_17, e212_19, e212_22, e212_25, e212_26, e212_27, e212_29, e212_30, e212_33, e212_34, e212_35, e212_38, e212_41, e212_42, e212_43, e212_44, e212_47]
  rw [hl.1]
  unfold sWay sSum
  rw [zrG_07]
  generalize zit _ _ _ _ = v
  simp (disch := first | assumption | exact zrm0 | exact zrm1 _ | exact zrm2 _ _ | exact zrm3 _ _ _ | exact zrm4 _ _ _ _ | omega) only [m212, ↓k_dp, ↓k_dn, k_dp, k_dn, k_dT, k_dF, k_ip, k_in, if_true, if_false, ne_eq, not_true_eq_false, not_false_eq_true, Int.reduceAdd, zup_a, zup_e, zup_j, z32_id, k_ic, k_is3, k_is4, k_il4, k_al0, k_gR, k_ild, k_ildS, k_ildW, k_icge, k_il1, k_s2r, k_ifeq, k_il3, k_il2, k_v3r, k_iadd, k_inc4, k_goto, k_ri, zb0_some, zb1_some, e212_0, e212_1, e212_2, e212_3, e212_5, e212_7, e212_8, e212_11, e212_12, e212_13, e212_16, e212_17, e212_19, e212_22, e212_25, e212_26, e212_27, e212_29, e212_30, e212_33, e212_34, e212_35, e212_38, e212_41, e212_42, e212_43, e212_44, e212_47, r_echoed]
theorem r_isLouder (d : Nat) (x0 p y q y2 : Int) (M : zM) (hS : okS (zrS M)) (hG : okG (zrG M)) : zEm true (d + 5) 213 [(30, 197, x0), (0, p, y), (0, q, y2)] M = some ((0, if sCar (zrS M) (zrG M) p q = true then 1 else 0, 0), M) := by
  unfold sCar
  by_cases c : sWay (zrS M) (zrG M) q 1 < sWay (zrS M) (zrG M) p 0
  · simp (disch := first | assumption | exact zrm0 | exact zrm1 _ | exact zrm2 _ _ | exact zrm3 _ _ _ | exact zrm4 _ _ _ _ | omega) only [m213, ↓k_dp, ↓k_dn, k_dp, k_dn, k_dT, k_dF, k_ip, k_in, if_true, if_false, ne_eq, not_true_eq_false, not_false_eq_true, Int.reduceAdd, zup_a, zup_e, zup_j, z32_id, k_al0, k_il1, k_ic, k_v3r, k_il2, k_icle, k_goto, k_rz, zb0_some, zb1_some, e213_0, e213_1, e213_2, e213_3, e213_6, e213_7, e213_8, e213_9, e213_12, e213_15, e213_16, e213_19, e213_20, r_noiseAll, decide_eq_true c]
  · simp (disch := first | assumption | exact zrm0 | exact zrm1 _ | exact zrm2 _ _ | exact zrm3 _ _ _ | exact zrm4 _ _ _ _ | omega) only [m213, ↓k_dp, ↓k_dn, k_dp, k_dn, k_dT, k_dF, k_ip, k_in, if_true, if_false, ne_eq, not_true_eq_false, not_false_eq_true, Int.reduceAdd, zup_a, zup_e, zup_j, z32_id, k_al0, k_il1, k_ic, k_v3r, k_il2, k_icle, k_goto, k_rz, zb0_some, zb1_some, e213_0, e213_1, e213_2, e213_3, e213_6, e213_7, e213_8, e213_9, e213_12, e213_15, e213_16, e213_19, e213_20, r_noiseAll, decide_eq_false c, Bool.false_eq_true]
theorem r_wouldBe (d : Nat) (x0 q y : Int) (M : zM) (hS : okS (zrS M)) (hG : okG (zrG M)) (q0 : 0 ≤ q) (q1 : q < 5) : zEm true (d + 6) 214 [(30, 197, x0), (0, q, y)] M = some ((0, if sWould (zrS M) (zrG M) q = true then 1 else 0, 0), M) := by
  unfold sWould
  rw [zrS_3 q0 q1, zrS_4 q0 q1]
  by_cases c : sCar (zrS M) (zrG M) (M 199 (101 + q)) (M 199 (106 + q)) = true
  · simp (disch := first | assumption | exact zrm0 | exact zrm1 _ | exact zrm2 _ _ | exact zrm3 _ _ _ | exact zrm4 _ _ _ _ | omega) only [m214, ↓k_dp, ↓k_dn, k_dp, k_dn, k_dT, k_dF, k_ip, k_in, if_true, if_false, ne_eq, not_true_eq_false, not_false_eq_true, Int.reduceAdd, zup_a, zup_e, zup_j, z32_id, k_al0, k_gR, k_ic, k_il1, k_iadd, k_ild, k_ildS, k_ildW, k_v3r, k_rz, zb0_some, zb1_some, e214_0, e214_1, e214_2, e214_5, e214_7, e214_8, e214_9, e214_10, e214_11, e214_14, e214_16, e214_17, e214_18, e214_19, e214_22, r_isLouder, c]
  · simp (disch := first | assumption | exact zrm0 | exact zrm1 _ | exact zrm2 _ _ | exact zrm3 _ _ _ | exact zrm4 _ _ _ _ | omega) only [m214, ↓k_dp, ↓k_dn, k_dp, k_dn, k_dT, k_dF, k_ip, k_in, if_true, if_false, ne_eq, not_true_eq_false, not_false_eq_true, Int.reduceAdd, zup_a, zup_e, zup_j, z32_id, k_al0, k_gR, k_ic, k_il1, k_iadd, k_ild, k_ildS, k_ildW, k_v3r, k_rz, zb0_some, zb1_some, e214_0, e214_1, e214_2, e214_5, e214_7, e214_8, e214_9, e214_10, e214_11, e214_14, e214_16, e214_17, e214_18, e214_19, e214_22, r_isLouder, c, Bool.false_eq_true]
theorem r_wayOf (d : Nat) (x0 h y q y2 : Int) (M : zM) (q0 : 0 ≤ q) (q1 : q < 5) : zEm true (d + 2) 216 [(30, 197, x0), (0, h, y), (0, q, y2)] M = some ((0, sWant (zrS M) h q, 0), M) := by
  unfold sWant
  rw [zrS_3 q0 q1, zrS_4 q0 q1]
  by_cases c1 : zbit (M 199 (101 + q)) h = 0
  · by_cases c2 : zbit (M 199 (106 + q)) h = 0
    · simp (disch := first | assumption | exact zrm0 | exact zrm1 _ | exact zrm2 _ _ | exact zrm3 _ _ _ | exact zrm4 _ _ _ _ | omega) only [m216, ↓k_dp, ↓k_dn, k_dp, k_dn, k_dT, k_dF, k_ip, k_in, if_true, if_false, ne_eq, not_true_eq_false, not_false_eq_true, Int.reduceAdd, zup_a, zup_e, zup_j, z32_id, k_al0, k_gR, k_ic, k_il2, k_iadd, k_ild, k_ildS, k_ildW, k_il1, k_s2r, k_ifeq, k_goto, k_ri, zb0_some, zb1_some, e216_0, e216_1, e216_4, e216_6, e216_7, e216_8, e216_9, e216_10, e216_13, e216_16, e216_17, e216_20, e216_21, e216_24, e216_26, e216_27, e216_28, e216_29, e216_30, e216_33, e216_36, e216_37, e216_40, e216_42, r_has, c1, c2]
    · simp (disch := first | assumption | exact zrm0 | exact zrm1 _ | exact zrm2 _ _ | exact zrm3 _ _ _ | exact zrm4 _ _ _ _ | omega) only [m216, ↓k_dp, ↓k_dn, k_dp, k_dn, k_dT, k_dF, k_ip, k_in, if_true, if_false, ne_eq, not_true_eq_false, not_false_eq_true, Int.reduceAdd, zup_a, zup_e, zup_j, z32_id, k_al0, k_gR, k_ic, k_il2, k_iadd, k_ild, k_ildS, k_ildW, k_il1, k_s2r, k_ifeq, k_goto, k_ri, zb0_some, zb1_some, e216_0, e216_1, e216_4, e216_6, e216_7, e216_8, e216_9, e216_10, e216_13, e216_16, e216_17, e216_20, e216_21, e216_24, e216_26, e216_27, e216_28, e216_29, e216_30, e216_33, e216_36, e216_37, e216_40, e216_42, r_has, c1, c2]
  · simp (disch := first | assumption | exact zrm0 | exact zrm1 _ | exact zrm2 _ _ | exact zrm3 _ _ _ | exact zrm4 _ _ _ _ | omega) only [m216, ↓k_dp, ↓k_dn, k_dp, k_dn, k_dT, k_dF, k_ip, k_in, if_true, if_false, ne_eq, not_true_eq_false, not_false_eq_true, Int.reduceAdd, zup_a, zup_e, zup_j, z32_id, k_al0, k_gR, k_ic, k_il2, k_iadd, k_ild, k_ildS, k_ildW, k_il1, k_s2r, k_ifeq, k_goto, k_ri, zb0_some, zb1_some, e216_0, e216_1, e216_4, e216_6, e216_7, e216_8, e216_9, e216_10, e216_13, e216_16, e216_17, e216_20, e216_21, e216_24, e216_26, e216_27, e216_28, e216_29, e216_30, e216_33, e216_36, e216_37, e216_40, e216_42, r_has, c1]
theorem r_those (d : Nat) (x0 how y : Int) (M : zM) (hG : okG (zrG M)) : zEm true (d + 1) 221 [(30, 197, x0), (0, how, y)] M = some ((0, sThose (zrS M) (zrG M) how, 0), M) := by
  obtain ⟨-, -, ⟨g1, g2⟩, -⟩ := okR_M hG
  have hl := zfor (ph := true) (d := d) (j := 221) (pc := 4) (fun q v => if zrS M 5 q = how then zor v (zshl 1 q) else v) (fun q _ => 0 ≤ q) (fun q v => [(30, 197, x0), (0, how, y), (0, v, 0), (0, q, 0)]) (fun _ => M) (M 199 2)
    (fun k b hk hp => ⟨by
      rw [e221_4, zrS_5 hp (by omega)]
      by_cases c1 : M 199 (111 + k) = how
      · simp (disch := first | assumption | exact zrm0 | exact zrm1 _ | exact zrm2 _ _ | exact zrm3 _ _ _ | exact zrm4 _ _ _ _ | omega) only [m221, ↓k_dp, ↓k_dn, k_dp, k_dn, k_dT, k_dF, k_ip, k_in, if_true, if_false, ne_eq, not_true_eq_false, not_false_eq_true, Int.reduceAdd, zup_a, zup_e, zup_j, z32_id, k_ic, k_is2, k_is3, k_il3, k_al0, k_gR, k_ild, k_ildS, k_ildW, k_icge, k_iadd, k_il1, k_icne, k_il2, k_ishl, k_ior, k_inc3, k_goto, k_ri, e221_0, e221_1, e221_2, e221_3, e221_5, e221_6, e221_9, e221_10, e221_11, e221_14, e221_15, e221_18, e221_20, e221_21, e221_22, e221_23, e221_24, e221_27, e221_28, e221_29, e221_30, e221_31, e221_32, e221_33, e221_36, e221_39, e221_40, if_pos c1]
      · simp (disch := first | assumption | exact zrm0 | exact zrm1 _ | exact zrm2 _ _ | exact zrm3 _ _ _ | exact zrm4 _ _ _ _ | omega) only [m221, ↓k_dp, ↓k_dn, k_dp, k_dn, k_dT, k_dF, k_ip, k_in, if_true, if_false, ne_eq, not_true_eq_false, not_false_eq_true, Int.reduceAdd, zup_a, zup_e, zup_j, z32_id, k_ic, k_is2, k_is3, k_il3, k_al0, k_gR, k_ild, k_ildS, k_ildW, k_icge, k_iadd, k_il1, k_icne, k_il2, k_ishl, k_ior, k_inc3, k_goto, k_ri, e221_0, e221_1, e221_2, e221_3, e221_5, e221_6, e221_9, e221_10, e221_11, e221_14, e221_15, e221_18, e221_20, e221_21, e221_22, e221_23, e221_24, e221_27, e221_28, e221_29, e221_30, e221_31, e221_32, e221_33, e221_36, e221_39, e221_40, if_neg c1], by omega⟩) (M 199 2).toNat 0 0 (by omega) (Int.le_refl _)
  simp (disch := first | assumption | exact zrm0 | exact zrm1 _ | exact zrm2 _ _ | exact zrm3 _ _ _ | exact zrm4 _ _ _ _ | omega) only [m221, ↓k_dp, ↓k_dn, k_dp, k_dn, k_dT, k_dF, k_ip, k_in, if_true, if_false, ne_eq, not_true_eq_false, not_false_eq_true, Int.reduceAdd, zup_a, zup_e, zup_j, z32_id, k_ic, k_is2, k_is3, k_il3, k_al0, k_gR, k_ild, k_ildS, k_ildW, k_icge, k_iadd, k_il1, k_icne, k_il2, k_ishl, k_ior, k_inc3, k_goto, k_ri, e221_0, e221_1, e221_2, e221_3, e221_5, e221_6, e221_9, e221_10, e221_11, e221_14, e221_15, e221_18, e221_20, e221_21, e221_22, e221_23, e221_24, e221_27, e221_28, e221_29, e221_30, e221_31, e221_32, e221_33, e221_36, e221_39, e221_40]
  rw [hl.1]
  unfold sThose
  rw [zrG_08]
  simp (disch := first | assumption | exact zrm0 | exact zrm1 _ | exact zrm2 _ _ | exact zrm3 _ _ _ | exact zrm4 _ _ _ _ | omega) only [m221, ↓k_dp, ↓k_dn, k_dp, k_dn, k_dT, k_dF, k_ip, k_in, if_true, if_false, ne_eq, not_true_eq_false, not_false_eq_true, Int.reduceAdd, zup_a, zup_e, zup_j, z32_id, k_ic, k_is2, k_is3, k_il3, k_al0, k_gR, k_ild, k_ildS, k_ildW, k_icge, k_iadd, k_il1, k_icne, k_il2, k_ishl, k_ior, k_inc3, k_goto, k_ri, e221_0, e221_1, e221_2, e221_3, e221_4, e221_5, e221_6, e221_9, e221_10, e221_11, e221_14, e221_15, e221_18, e221_20, e221_21, e221_22, e221_23, e221_24, e221_27, e221_28, e221_29, e221_30, e221_31, e221_32, e221_33, e221_36, e221_39, e221_40]
