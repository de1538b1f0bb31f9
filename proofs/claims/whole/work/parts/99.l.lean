/-! the fewest irons: the class's rows, filled -/
noncomputable abbrev zLf (M : zM) (q : Int) : Nat → Int → Int := dL (gB (zvS M 37) (zvG M 30) q) (rB (zvS M 37) (zvG M 30) q) (M 30 7)
/-- rows of the last j hands are right -/
def okRows (M N : zM) (q : Int) (j : Nat) : Prop := ∀ (i : Nat) (n : Int), i ≤ j → 0 ≤ n → n ≤ 200 → N 57 ((M 30 7 - i) * 201 + n) = zLf M q i n
theorem okK_up {M N : zM} {q y v : Int} (h : okK M N q) : okK M (zup N 57 y v) q :=
  ⟨by rw [zup_a (by omega)]; exact h.1, fun k k0 k1 => by rw [zup_a (by omega)]; exact h.2.1 k k0 k1, fun x y h1 h2 => by rw [zup_a h1]; exact h.2.2 x y h1 h2⟩
theorem c_fillT (d : Nat) (x0 h : Int) (M : zM) (q : Int) (j : Nat) (h56 : M 56 2 = zvS M 37 3 q) (hS : okS (zvS M 37)) (hG : okG (zvG M 30)) (h0 : 0 ≤ h) (h1 : h < M 30 7) (hj : h = M 30 7 - (j + 1)) : ∀ (m : Nat) (t : Int) (l5 l6 l7 : zV) (N : zM), t + m = 201 → 0 ≤ t → okK M N q → okRows M N q j → (∀ n, 0 ≤ n → n < t → N 57 (h * 201 + n) = zLf M q (j + 1) n) → ∃ l5' l6' l7' N', zEv true (d + 4) 76 45 [(23, 56, x0), (28, 30, 0), (26, 37, 0), (0, h, 0), (0, t, 0), l5, l6, l7] [] N = zEv true (d + 4) 76 143 [(23, 56, x0), (28, 30, 0), (26, 37, 0), (0, h, 0), (0, 201, 0), l5', l6', l7'] [] N' ∧ okK M N' q ∧ okRows M N' q (j + 1)
  | 0, t, l5, l6, l7, N, hm, t0, hK, hR, hT => by
    have e : t = 201 := by omega
    subst e
    refine ⟨l5, l6, l7, N, ?_, hK, fun i n hi n0 n1 => ?_⟩
    · rw [e76_45]
      simp (disch := first | assumption | exact zrm0 | exact zrm1 _ | exact zrm2 _ _ | exact zrm3 _ _ _ | exact zrm4 _ _ _ _ | omega) only [m76, ↓k_dp, ↓k_dn, k_dp, k_dn, k_dT, k_dF, k_ip, k_in, if_true, if_false, ne_eq, not_true_eq_false, not_false_eq_true, Int.reduceAdd, zup_a, zup_e, zup_j, z32_id, k_ic, k_is3, k_il3, k_icgt, k_al0, k_gR, k_al1, k_gI, k_imul, k_iadd, k_ist, k_inc3, k_goto, k_isub, k_iflt, k_is4, k_il4, k_is5, k_is6, k_il6, k_ild, k_ildS, k_ildW, k_al2, k_v5r, k_is7, k_il5, k_il7, k_max, k_inc6, k_inc4, k_rv, zb0_some, zb1_some, e76_0, e76_1, e76_2, e76_3, e76_6, e76_9, e76_10, e76_13, e76_14, e76_17, e76_20, e76_21, e76_22, e76_23, e76_24, e76_25, e76_28, e76_31, e76_32, e76_35, e76_36, e76_37, e76_38, e76_39, e76_42, e76_43, e76_47, e76_50, e76_53, e76_54, e76_56, e76_57, e76_59, e76_61, e76_62, e76_65, e76_66, e76_67, e76_70, e76_72, e76_74, e76_77, e76_78, e76_79, e76_80, e76_81, e76_83, e76_86, e76_87, e76_90, e76_91, e76_92, e76_93, e76_96, e76_97, e76_99, e76_100, e76_102, e76_103, e76_104, e76_105, e76_107, e76_109, e76_111, e76_114, e76_116, e76_119, e76_122, e76_123, e76_126, e76_127, e76_130, e76_131, e76_133, e76_134, e76_136, e76_137, e76_140, e76_146, e76_149]
    · by_cases c : i ≤ j
      · exact hR i n c n0 n1
      · have e : i = j + 1 := by omega
        subst e
        have := hT n n0 (by omega)
        rw [hj] at this
        exact this
  | m + 1, t, l5, l6, l7, N, hm, t0, hK, hR, hT => by
    have hG2 := hG
    obtain ⟨⟨g6, g6'⟩, ⟨g1, g2⟩, -⟩ := okG_M hG2
    obtain ⟨k', l7', hk⟩ := c_fillK d x0 h t l7 M N q j h56 hS hG hK h0 h1 t0 (by omega) hj (fun n n0 n1 => by
      have := hR j n (Nat.le_refl _) n0 n1
      rw [show M 30 7 - (j : Int) = h + 1 by omega] at this
      exact this)
    have bL := dL_bd (g := gB (zvS M 37) (zvG M 30) q) (r := rB (zvS M 37) (zvG M 30) q) (H := M 30 7) (gB_bd hS hG) (fun h => (rB_bd hS hG h).1) (j + 1) t t0
    obtain ⟨l5'', l6'', l7'', N', i1, i2, i3⟩ := c_fillT d x0 h M q j h56 hS hG h0 h1 hj m (t + 1) (0, zLf M q (j + 1) t, 0) (0, k', 0) l7' (zup N 57 (h * 201 + t) (zLf M q (j + 1) t)) (by omega) (by omega) (okK_up hK) (fun i n hi n0 n1 => by
      rw [zup_j (by omega)]
      exact hR i n hi n0 n1) (fun n n0 n1 => by
      by_cases c : n = t
      · rw [c, zup_e (by omega)]
      · rw [zup_j (by omega)]
        exact hT n n0 (by omega))
    refine ⟨l5'', l6'', l7'', N', ?_, i2, i3⟩
    rw [← i1, e76_45]
    show _ = zEv true (d + 4) 76 45 [(23, 56, x0), (28, 30, 0), (26, 37, 0), (0, h, 0), (0, t + 1, 0), (0, zLf M q (j + 1) t, 0), (0, k', 0), l7'] [] (zup N 57 (h * 201 + t) (zLf M q (j + 1) t))
    have hk2 : zEv true (d + 4) 76 59 [(23, 56, x0), (28, 30, 0), (26, 37, 0), (0, h, 0), (0, t, 0), (0, 0, 0), (0, 0, 0), l7] [] N = zEv true (d + 4) 76 122 [(23, 56, x0), (28, 30, 0), (26, 37, 0), (0, h, 0), (0, t, 0), (0, zLf M q (j + 1) t, 0), (0, k', 0), l7'] [] N := hk
    generalize zLf M q (j + 1) t = vv at hk2 ⊢
    simp (disch := first | assumption | exact zrm0 | exact zrm1 _ | exact zrm2 _ _ | exact zrm3 _ _ _ | exact zrm4 _ _ _ _ | omega) only [m76, ↓k_dp, ↓k_dn, k_dp, k_dn, k_dT, k_dF, k_ip, k_in, if_true, if_false, ne_eq, not_true_eq_false, not_false_eq_true, Int.reduceAdd, zup_a, zup_e, zup_j, z32_id, k_ic, k_is3, k_il3, k_icgt, k_al0, k_gR, k_al1, k_gI, k_imul, k_iadd, k_ist, k_inc3, k_goto, k_isub, k_iflt, k_is4, k_il4, k_is5, k_is6, k_il6, k_ild, k_ildS, k_ildW, k_al2, k_v5r, k_is7, k_il5, k_il7, k_max, k_inc6, k_inc4, k_rv, zb0_some, zb1_some, e76_0, e76_1, e76_2, e76_3, e76_6, e76_9, e76_10, e76_13, e76_14, e76_17, e76_20, e76_21, e76_22, e76_23, e76_24, e76_25, e76_28, e76_31, e76_32, e76_35, e76_36, e76_37, e76_38, e76_39, e76_42, e76_43, e76_47, e76_50, e76_53, e76_54, e76_56, e76_57, e76_61, e76_62, e76_65, e76_66, e76_67, e76_70, e76_72, e76_74, e76_77, e76_78, e76_79, e76_80, e76_81, e76_83, e76_86, e76_87, e76_90, e76_91, e76_92, e76_93, e76_96, e76_97, e76_99, e76_100, e76_102, e76_103, e76_104, e76_105, e76_107, e76_109, e76_111, e76_114, e76_116, e76_119, e76_122, e76_123, e76_126, e76_127, e76_130, e76_131, e76_133, e76_134, e76_136, e76_137, e76_140, e76_143, e76_146, e76_149]
    rw [hk2]
    simp (disch := first | assumption | exact zrm0 | exact zrm1 _ | exact zrm2 _ _ | exact zrm3 _ _ _ | exact zrm4 _ _ _ _ | omega) only [m76, ↓k_dp, ↓k_dn, k_dp, k_dn, k_dT, k_dF, k_ip, k_in, if_true, if_false, ne_eq, not_true_eq_false, not_false_eq_true, Int.reduceAdd, zup_a, zup_e, zup_j, z32_id, k_ic, k_is3, k_il3, k_icgt, k_al0, k_gR, k_al1, k_gI, k_imul, k_iadd, k_ist, k_inc3, k_goto, k_isub, k_iflt, k_is4, k_il4, k_is5, k_is6, k_il6, k_ild, k_ildS, k_ildW, k_al2, k_v5r, k_is7, k_il5, k_il7, k_max, k_inc6, k_inc4, k_rv, zb0_some, zb1_some, e76_0, e76_1, e76_2, e76_3, e76_6, e76_9, e76_10, e76_13, e76_14, e76_17, e76_20, e76_21, e76_22, e76_23, e76_24, e76_25, e76_28, e76_31, e76_32, e76_35, e76_36, e76_37, e76_38, e76_39, e76_42, e76_43, e76_47, e76_50, e76_53, e76_54, e76_56, e76_57, e76_59, e76_61, e76_62, e76_65, e76_66, e76_67, e76_70, e76_72, e76_74, e76_77, e76_78, e76_79, e76_80, e76_81, e76_83, e76_86, e76_87, e76_90, e76_91, e76_92, e76_93, e76_96, e76_97, e76_99, e76_100, e76_102, e76_103, e76_104, e76_105, e76_107, e76_109, e76_111, e76_114, e76_116, e76_119, e76_122, e76_123, e76_126, e76_127, e76_130, e76_131, e76_133, e76_134, e76_136, e76_137, e76_140, e76_143, e76_146, e76_149]
theorem c_fillH (d : Nat) (x0 : Int) (M : zM) (q : Int) (h56 : M 56 2 = zvS M 37 3 q) (hS : okS (zvS M 37)) (hG : okG (zvG M 30)) : ∀ (m : Nat) (j : Nat) (l4 l5 l6 l7 : zV) (N : zM), (j : Int) + m = M 30 7 → okK M N q → okRows M N q j → ∃ N', zEv true (d + 4) 76 38 [(23, 56, x0), (28, 30, 0), (26, 37, 0), (0, M 30 7 - 1 - j, 0), l4, l5, l6, l7] [] N = some ((98, 0, 0), N') ∧ okK M N' q ∧ okRows M N' q (j + m)
  | 0, j, l4, l5, l6, l7, N, hm, hK, hR => by
    refine ⟨N, ?_, hK, hR⟩
    have e : M 30 7 - 1 - (j : Int) = -1 := by omega
    rw [e, e76_38]
    simp (disch := first | assumption | exact zrm0 | exact zrm1 _ | exact zrm2 _ _ | exact zrm3 _ _ _ | exact zrm4 _ _ _ _ | omega) only [m76, ↓k_dp, ↓k_dn, k_dp, k_dn, k_dT, k_dF, k_ip, k_in, if_true, if_false, ne_eq, not_true_eq_false, not_false_eq_true, Int.reduceAdd, zup_a, zup_e, zup_j, z32_id, k_ic, k_is3, k_il3, k_icgt, k_al0, k_gR, k_al1, k_gI, k_imul, k_iadd, k_ist, k_inc3, k_goto, k_isub, k_iflt, k_is4, k_il4, k_is5, k_is6, k_il6, k_ild, k_ildS, k_ildW, k_al2, k_v5r, k_is7, k_il5, k_il7, k_max, k_inc6, k_inc4, k_rv, zb0_some, zb1_some, e76_0, e76_1, e76_2, e76_3, e76_6, e76_9, e76_10, e76_13, e76_14, e76_17, e76_20, e76_21, e76_22, e76_23, e76_24, e76_25, e76_28, e76_31, e76_32, e76_35, e76_36, e76_37, e76_39, e76_42, e76_43, e76_45, e76_47, e76_50, e76_53, e76_54, e76_56, e76_57, e76_59, e76_61, e76_62, e76_65, e76_66, e76_67, e76_70, e76_72, e76_74, e76_77, e76_78, e76_79, e76_80, e76_81, e76_83, e76_86, e76_87, e76_90, e76_91, e76_92, e76_93, e76_96, e76_97, e76_99, e76_100, e76_102, e76_103, e76_104, e76_105, e76_107, e76_109, e76_111, e76_114, e76_116, e76_119, e76_122, e76_123, e76_126, e76_127, e76_130, e76_131, e76_133, e76_134, e76_136, e76_137, e76_140, e76_143, e76_146, e76_149]
  | m + 1, j, l4, l5, l6, l7, N, hm, hK, hR => by
    have hG2 := hG
    obtain ⟨⟨g6, g6'⟩, ⟨g1, g2⟩, -⟩ := okG_M hG2
    obtain ⟨h, hh⟩ : ∃ h, h = M 30 7 - 1 - (j : Int) := ⟨_, rfl⟩
    obtain ⟨l5', l6', l7', N1, i1, i2, i3⟩ := c_fillT d x0 h M q j h56 hS hG (by omega) (by omega) (by omega) 201 0 l5 l6 l7 N (by omega) (Int.le_refl _) hK hR (fun n n0 n1 => by omega)
    obtain ⟨N2, j1, j2, j3⟩ := c_fillH d x0 M q h56 hS hG m (j + 1) (0, 201, 0) l5' l6' l7' N1 (by omega) i2 i3
    refine ⟨N2, ?_, j2, by rw [show j + (m + 1) = j + 1 + m by omega]; exact j3⟩
    rw [← hh, e76_38]
    have e2 : M 30 7 - 1 - ((j + 1 : Nat) : Int) = h - 1 := by omega
    have e3 : h + -1 = h - 1 := by omega
    rw [e2] at j1
    have h1 : 0 ≤ h := by omega
    have h2 : h < 10 := by omega
    simp (disch := first | assumption | exact zrm0 | exact zrm1 _ | exact zrm2 _ _ | exact zrm3 _ _ _ | exact zrm4 _ _ _ _ | omega) only [m76, ↓k_dp, ↓k_dn, k_dp, k_dn, k_dT, k_dF, k_ip, k_in, if_true, if_false, ne_eq, not_true_eq_false, not_false_eq_true, Int.reduceAdd, zup_a, zup_e, zup_j, z32_id, k_ic, k_is3, k_il3, k_icgt, k_al0, k_gR, k_al1, k_gI, k_imul, k_iadd, k_ist, k_inc3, k_goto, k_isub, k_iflt, k_is4, k_il4, k_is5, k_is6, k_il6, k_ild, k_ildS, k_ildW, k_al2, k_v5r, k_is7, k_il5, k_il7, k_max, k_inc6, k_inc4, k_rv, zb0_some, zb1_some, e76_0, e76_1, e76_2, e76_3, e76_6, e76_9, e76_10, e76_13, e76_14, e76_17, e76_20, e76_21, e76_22, e76_23, e76_24, e76_25, e76_28, e76_31, e76_32, e76_35, e76_36, e76_37, e76_39, e76_42, e76_43, e76_47, e76_50, e76_53, e76_54, e76_56, e76_57, e76_59, e76_61, e76_62, e76_65, e76_66, e76_67, e76_70, e76_72, e76_74, e76_77, e76_78, e76_79, e76_80, e76_81, e76_83, e76_86, e76_87, e76_90, e76_91, e76_92, e76_93, e76_96, e76_97, e76_99, e76_100, e76_102, e76_103, e76_104, e76_105, e76_107, e76_109, e76_111, e76_114, e76_116, e76_119, e76_122, e76_123, e76_126, e76_127, e76_130, e76_131, e76_133, e76_134, e76_136, e76_137, e76_140, e76_143, e76_146, e76_149]
    rw [i1]
    simp (disch := first | assumption | exact zrm0 | exact zrm1 _ | exact zrm2 _ _ | exact zrm3 _ _ _ | exact zrm4 _ _ _ _ | omega) only [m76, ↓k_dp, ↓k_dn, k_dp, k_dn, k_dT, k_dF, k_ip, k_in, if_true, if_false, ne_eq, not_true_eq_false, not_false_eq_true, Int.reduceAdd, zup_a, zup_e, zup_j, z32_id, k_ic, k_is3, k_il3, k_icgt, k_al0, k_gR, k_al1, k_gI, k_imul, k_iadd, k_ist, k_inc3, k_goto, k_isub, k_iflt, k_is4, k_il4, k_is5, k_is6, k_il6, k_ild, k_ildS, k_ildW, k_al2, k_v5r, k_is7, k_il5, k_il7, k_max, k_inc6, k_inc4, k_rv, zb0_some, zb1_some, e76_0, e76_1, e76_2, e76_3, e76_6, e76_9, e76_10, e76_13, e76_14, e76_17, e76_20, e76_21, e76_22, e76_23, e76_24, e76_25, e76_28, e76_31, e76_32, e76_35, e76_36, e76_37, e76_39, e76_42, e76_43, e76_45, e76_47, e76_50, e76_53, e76_54, e76_56, e76_57, e76_59, e76_61, e76_62, e76_65, e76_66, e76_67, e76_70, e76_72, e76_74, e76_77, e76_78, e76_79, e76_80, e76_81, e76_83, e76_86, e76_87, e76_90, e76_91, e76_92, e76_93, e76_96, e76_97, e76_99, e76_100, e76_102, e76_103, e76_104, e76_105, e76_107, e76_109, e76_111, e76_114, e76_116, e76_119, e76_122, e76_123, e76_126, e76_127, e76_130, e76_131, e76_133, e76_134, e76_136, e76_137, e76_140, e76_143, e76_146, e76_149, e3, Int.reduceNeg]
    exact j1
theorem c_fillLoudest (d : Nat) (x0 : Int) (M N : zM) (q : Int) (h56 : M 56 2 = zvS M 37 3 q) (hS : okS (zvS M 37)) (hG : okG (zvG M 30)) (hK : okK M N q) : ∃ N', zEm true (d + 5) 76 [(23, 56, x0), (28, 30, 0), (26, 37, 0)] N = some ((98, 0, 0), N') ∧ okK M N' q ∧ okRows M N' q (M 30 7).toNat := by
  have hG2 := hG
  obtain ⟨⟨g6, g6'⟩, ⟨g1, g2⟩, -⟩ := okG_M hG2
  have u0 : N 30 7 = M 30 7 := hK.2.2 _ _ (by omega) (by omega)
  have hl := zfor (α := zM) (ph := true) (d := d + 4) (j := 76) (pc := 2) (fun t U => zup U 57 (M 30 7 * 201 + t) 0) (fun t U => 0 ≤ t ∧ okK M U q ∧ ∀ n, 0 ≤ n → n < t → U 57 (M 30 7 * 201 + n) = 0) (fun t _ => [(23, 56, x0), (28, 30, 0), (26, 37, 0), (0, t, 0), (3, 0, 0), (3, 0, 0), (3, 0, 0), (3, 0, 0)]) (fun U => U) 201
    (fun t U hk hp => by
      obtain ⟨t0, hK, hz⟩ := hp
      have u1 : U 30 7 = M 30 7 := hK.2.2 _ _ (by omega) (by omega)
      refine ⟨?_, by omega, okK_up hK, fun n n0 n1 => ?_⟩
      · rw [e76_2]
        simp (disch := first | assumption | exact zrm0 | exact zrm1 _ | exact zrm2 _ _ | exact zrm3 _ _ _ | exact zrm4 _ _ _ _ | omega) only [m76, ↓k_dp, ↓k_dn, k_dp, k_dn, k_dT, k_dF, k_ip, k_in, if_true, if_false, ne_eq, not_true_eq_false, not_false_eq_true, Int.reduceAdd, zup_a, zup_e, zup_j, z32_id, k_ic, k_is3, k_il3, k_icgt, k_al0, k_gR, k_al1, k_gI, k_imul, k_iadd, k_ist, k_inc3, k_goto, k_isub, k_iflt, k_is4, k_il4, k_is5, k_is6, k_il6, k_ild, k_ildS, k_ildW, k_al2, k_v5r, k_is7, k_il5, k_il7, k_max, k_inc6, k_inc4, k_rv, zb0_some, zb1_some, e76_0, e76_1, e76_3, e76_6, e76_9, e76_10, e76_13, e76_14, e76_17, e76_20, e76_21, e76_22, e76_23, e76_24, e76_25, e76_28, e76_31, e76_32, e76_35, e76_36, e76_37, e76_38, e76_39, e76_42, e76_43, e76_45, e76_47, e76_50, e76_53, e76_54, e76_56, e76_57, e76_59, e76_61, e76_62, e76_65, e76_66, e76_67, e76_70, e76_72, e76_74, e76_77, e76_78, e76_79, e76_80, e76_81, e76_83, e76_86, e76_87, e76_90, e76_91, e76_92, e76_93, e76_96, e76_97, e76_99, e76_100, e76_102, e76_103, e76_104, e76_105, e76_107, e76_109, e76_111, e76_114, e76_116, e76_119, e76_122, e76_123, e76_126, e76_127, e76_130, e76_131, e76_133, e76_134, e76_136, e76_137, e76_140, e76_143, e76_146, e76_149, u1]
      · by_cases c : n = t
        · rw [c, zup_e (by omega)]
        · rw [zup_j (by omega)]; exact hz n n0 (by omega)) 201 0 N (by omega) ⟨Int.le_refl _, hK, fun n n0 n1 => by omega⟩
  obtain ⟨h1, -, hK1, h2⟩ := hl
  generalize zit (fun t U => zup U 57 (M 30 7 * 201 + t) 0) 201 0 N = U at h1 hK1 h2
  have u1 : U 30 7 = M 30 7 := hK1.2.2 _ _ (by omega) (by omega)
  obtain ⟨N', j1, j2, j3⟩ := c_fillH d x0 M q h56 hS hG (M 30 7).toNat 0 (3, 0, 0) (3, 0, 0) (3, 0, 0) (3, 0, 0) U (by omega) hK1 (fun i n hi n0 n1 => by
    have e : i = 0 := by omega
    subst e
    have := h2 n n0 (by omega)
    rw [show M 30 7 - ((0 : Nat) : Int) = M 30 7 by omega, this]
    rfl)
  refine ⟨N', ?_, j2, by rw [Nat.zero_add] at j3; exact j3⟩
  have e : M 30 7 - 1 - ((0 : Nat) : Int) = M 30 7 - 1 := by omega
  rw [e] at j1
  simp (disch := first | assumption | exact zrm0 | exact zrm1 _ | exact zrm2 _ _ | exact zrm3 _ _ _ | exact zrm4 _ _ _ _ | omega) only [m76, ↓k_dp, ↓k_dn, k_dp, k_dn, k_dT, k_dF, k_ip, k_in, if_true, if_false, ne_eq, not_true_eq_false, not_false_eq_true, Int.reduceAdd, zup_a, zup_e, zup_j, z32_id, k_ic, k_is3, k_il3, k_icgt, k_al0, k_gR, k_al1, k_gI, k_imul, k_iadd, k_ist, k_inc3, k_goto, k_isub, k_iflt, k_is4, k_il4, k_is5, k_is6, k_il6, k_ild, k_ildS, k_ildW, k_al2, k_v5r, k_is7, k_il5, k_il7, k_max, k_inc6, k_inc4, k_rv, zb0_some, zb1_some, e76_0, e76_1, e76_3, e76_6, e76_9, e76_10, e76_13, e76_14, e76_17, e76_20, e76_21, e76_22, e76_23, e76_24, e76_25, e76_28, e76_31, e76_32, e76_35, e76_36, e76_37, e76_38, e76_39, e76_42, e76_43, e76_45, e76_47, e76_50, e76_53, e76_54, e76_56, e76_57, e76_59, e76_61, e76_62, e76_65, e76_66, e76_67, e76_70, e76_72, e76_74, e76_77, e76_78, e76_79, e76_80, e76_81, e76_83, e76_86, e76_87, e76_90, e76_91, e76_92, e76_93, e76_96, e76_97, e76_99, e76_100, e76_102, e76_103, e76_104, e76_105, e76_107, e76_109, e76_111, e76_114, e76_116, e76_119, e76_122, e76_123, e76_126, e76_127, e76_130, e76_131, e76_133, e76_134, e76_136, e76_137, e76_140, e76_143, e76_146, e76_149]
  rw [h1]
  simp (disch := first | assumption | exact zrm0 | exact zrm1 _ | exact zrm2 _ _ | exact zrm3 _ _ _ | exact zrm4 _ _ _ _ | omega) only [m76, ↓k_dp, ↓k_dn, k_dp, k_dn, k_dT, k_dF, k_ip, k_in, if_true, if_false, ne_eq, not_true_eq_false, not_false_eq_true, Int.reduceAdd, zup_a, zup_e, zup_j, z32_id, k_ic, k_is3, k_il3, k_icgt, k_al0, k_gR, k_al1, k_gI, k_imul, k_iadd, k_ist, k_inc3, k_goto, k_isub, k_iflt, k_is4, k_il4, k_is5, k_is6, k_il6, k_ild, k_ildS, k_ildW, k_al2, k_v5r, k_is7, k_il5, k_il7, k_max, k_inc6, k_inc4, k_rv, zb0_some, zb1_some, e76_0, e76_1, e76_2, e76_3, e76_6, e76_9, e76_10, e76_13, e76_14, e76_17, e76_20, e76_21, e76_22, e76_23, e76_24, e76_25, e76_28, e76_31, e76_32, e76_35, e76_36, e76_37, e76_39, e76_42, e76_43, e76_45, e76_47, e76_50, e76_53, e76_54, e76_56, e76_57, e76_59, e76_61, e76_62, e76_65, e76_66, e76_67, e76_70, e76_72, e76_74, e76_77, e76_78, e76_79, e76_80, e76_81, e76_83, e76_86, e76_87, e76_90, e76_91, e76_92, e76_93, e76_96, e76_97, e76_99, e76_100, e76_102, e76_103, e76_104, e76_105, e76_107, e76_109, e76_111, e76_114, e76_116, e76_119, e76_122, e76_123, e76_126, e76_127, e76_130, e76_131, e76_133, e76_134, e76_136, e76_137, e76_140, e76_143, e76_146, e76_149, u1]
  exact j1
