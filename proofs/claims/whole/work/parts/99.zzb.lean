/-! the lines of a valley's text: wants, hand -/
theorem zclr_all : ((List.range 1024).all fun x => (List.range 10).all fun h => (decide (zbit x h ≠ 0) || decide (zand x (zxor (zshl 1 h) (-1)) = x))) = true := by decide +kernel
theorem zclr {x h : Int} (x0 : 0 ≤ x) (x1 : x < 1024) (h0 : 0 ≤ h) (h1 : h < 10) (c : zbit x h = 0) : zand x (zxor (zshl 1 h) (-1)) = x := by
  have := zclr_all
  rw [List.all_eq_true] at this
  have := this x.toNat (List.mem_range.mpr (by omega))
  rw [List.all_eq_true] at this
  have := this h.toNat (List.mem_range.mpr (by omega))
  rw [Int.toNat_of_nonneg x0, Int.toNat_of_nonneg h0] at this
  simp only [Bool.or_eq_true, decide_eq_true_eq] at this
  rcases this with z | z
  · exact absurd c z
  · exact z
theorem zsh_all : ((List.range 10).all fun h => decide (0 ≤ zshl 1 h) && decide (zshl 1 h < 1024)) = true := by decide +kernel
theorem zsh_bd {h : Int} (h0 : 0 ≤ h) (h1 : h < 10) : 0 ≤ zshl 1 h ∧ zshl 1 h < 1024 := by
  have := zsh_all
  rw [List.all_eq_true] at this
  have := this h.toNat (List.mem_range.mpr (by omega))
  rw [Int.toNat_of_nonneg h0] at this
  simp only [Bool.and_eq_true, decide_eq_true_eq] at this
  exact this
theorem s_turn11 (D : Nat) (hD : 1 ≤ D) (x0 h y q y2 w y3 : Int) (M : zM) (q0 : 0 ≤ q) (q1 : q < 5) (w0 : 0 ≤ w) (w1 : w < 2) : zEm true D 128 [(26, 11, x0), (0, h, y), (0, q, y2), (0, w, y3)] M = some ((98, 0, 0), if w = 0 then zup (zup M 14 q (zor (M 14 q) (zshl 1 h))) 15 q (zand (M 15 q) (zxor (zshl 1 h) (-1))) else zup (zup M 14 q (zand (M 14 q) (zxor (zshl 1 h) (-1)))) 15 q (zor (M 15 q) (zshl 1 h))) := by
  obtain ⟨d, rfl⟩ : ∃ d, D = d + 1 := ⟨D - 1, by omega⟩
  by_cases c : w = 0
  · subst c
    rw [if_pos rfl]
    simp (disch := first | assumption | exact zrm0 | exact zrm1 _ | exact zrm2 _ _ | exact zrm3 _ _ _ | exact zrm4 _ _ _ _ | omega) only [m128, ↓k_dp, ↓k_dn, k_dp, k_dn, k_dT, k_dF, k_ip, k_in, if_true, if_false, ne_eq, not_true_eq_false, not_false_eq_true, Int.reduceAdd, zup_a, zup_e, zup_j, z32_id, k_ic, k_il1, k_ishl, k_is4, k_al0, k_gR, k_il2, k_il3, k_ifne, k_ild, k_ildS, k_ildW, k_il4, k_ior, k_goto, k_ixor, k_iand, k_ist, k_icne, k_rv, e128_0, e128_1, e128_2, e128_3, e128_5, e128_6, e128_9, e128_10, e128_11, e128_14, e128_15, e128_18, e128_19, e128_20, e128_22, e128_23, e128_26, e128_27, e128_30, e128_31, e128_32, e128_34, e128_35, e128_36, e128_37, e128_38, e128_39, e128_42, e128_43, e128_44, e128_45, e128_48, e128_49, e128_52, e128_53, e128_54, e128_56, e128_57, e128_60, e128_61, e128_64, e128_65, e128_66, e128_68, e128_69, e128_70, e128_71, e128_72]
  · have c2 : w = 1 := by omega
    subst c2
    rw [if_neg c]
    simp (disch := first | assumption | exact zrm0 | exact zrm1 _ | exact zrm2 _ _ | exact zrm3 _ _ _ | exact zrm4 _ _ _ _ | omega) only [m128, ↓k_dp, ↓k_dn, k_dp, k_dn, k_dT, k_dF, k_ip, k_in, if_true, if_false, ne_eq, not_true_eq_false, not_false_eq_true, Int.reduceAdd, zup_a, zup_e, zup_j, z32_id, k_ic, k_il1, k_ishl, k_is4, k_al0, k_gR, k_il2, k_il3, k_ifne, k_ild, k_ildS, k_ildW, k_il4, k_ior, k_goto, k_ixor, k_iand, k_ist, k_icne, k_rv, e128_0, e128_1, e128_2, e128_3, e128_5, e128_6, e128_9, e128_10, e128_11, e128_14, e128_15, e128_18, e128_19, e128_20, e128_22, e128_23, e128_26, e128_27, e128_30, e128_31, e128_32, e128_34, e128_35, e128_36, e128_37, e128_38, e128_39, e128_42, e128_43, e128_44, e128_45, e128_48, e128_49, e128_52, e128_53, e128_54, e128_56, e128_57, e128_60, e128_61, e128_64, e128_65, e128_66, e128_68, e128_69, e128_70, e128_71, e128_72]
theorem p_wants {A B : zM} (h : tkR A B) (v : vlP A B) (c5 : A 2 5 = 2) (D E : Nat) (hD : 9 ≤ D) (hE : 8 ≤ E) (x0 y0 : Int) : ∃ A' B' r, zEm true D 85 [(24, 1, x0)] A = some ((0, r, 0), A') ∧ zEm true E 199 [(30, 197, y0)] B = some ((0, r, 0), B') ∧ frV A A' ∧ frW B B' ∧ lnC A A' B' r := by
  obtain ⟨d, rfl⟩ : ∃ d, D = d + 1 := ⟨D - 1, by omega⟩
  obtain ⟨e, rfl⟩ : ∃ e, E = e + 1 := ⟨E - 1, by omega⟩
  obtain ⟨A1, B1, a1, a2, a3, a4, a5, a6⟩ := p_go h.1 d e (by omega) (by omega) 0 y0
  have hp1 := a6 _ (tk_pg h (by omega)).1 (tk_pg h (by omega)).2
  have v1 : vlP A1 B1 := vl_ag v (agX_a a4) (agY_g a5)
  have k1 := v1.k1
  obtain ⟨A2, B2, r, hh, b1, b2, b3, b4, b5⟩ := p_readOne a3 d e (by omega) (by omega) 6 10 5 (A1 4 7) 0 y0 0 0 0 (by omega) (by omega) (by omega) (by omega) (by omega) v1.n2
  rw [k1.1] at b2
  rcases b5 with ⟨rfl, hq, h13, b5, b6⟩ | ⟨rfl, rfl, b5⟩
  · have v2 : vlP A2 B2 := vl_ag v1 b3 b4
    have j0 := v2.k2
    obtain ⟨A3, B3, r, q, f1, f2, f3, f4, f5⟩ := p_isOne b5 d e (by omega) (by omega) 7 5 15 (A2 4 8) 0 y0 0 0 0 (by omega) (by omega) (by omega) (by omega) (by omega) v2.n3
    rw [j0.1] at f2
    rcases f5 with ⟨rfl, hs, e1, e2, h5⟩ | ⟨rfl, rfl, f5⟩
    · subst e1
      have g13 : B3 197 13 = q := by rw [e2, zup_e (by omega)]
      have hT3 : tkR A3 B3 := tkR_fr b5 (fun _ _ _ => rfl) (fun x y z => by rw [e2, zup_f (by omega)])
      have v3 : vlP A3 B3 := vl_ag v2 agX_r f4
      obtain ⟨l1, l2, l3⟩ := v3.lf q (by omega) (by omega)
      obtain ⟨r1, r2, r3⟩ := v3.rt q (by omega) (by omega)
      have hw := s_wayWanted (d - 2) 11 0 hh 0 q 0 A3 (by omega) (by omega)
      have hsw : sWant (zvS A3 11) hh q = if zbit (A3 14 q) hh ≠ 0 then 0 else if zbit (A3 15 q) hh ≠ 0 then 1 else -2 := by
        unfold sWant
        rw [zvS_3 (by omega) (by omega), zvS_4 (by omega) (by omega)]
        rfl
      rw [show d - 2 + 2 = d by omega, hsw] at hw
      have hor := zbit_or (a := A3 14 q) (b := A3 15 q) (h := hh) (by omega) (by omega)
      have hhas : ∀ y, zEm true e 169 [(0, zor (A3 14 q) (A3 15 q), 0), (0, hh, y)] B3 = some ((0, if zbit (zor (A3 14 q) (A3 15 q)) hh ≠ 0 then 1 else 0, 0), B3) := fun y => by
        have := r_has true (e - 1) (zor (A3 14 q) (A3 15 q)) hh 0 y B3
        rw [show e - 1 + 1 = e by omega] at this
        exact this
      have l1' := l1.symm
      have r1' := r1.symm
      by_cases cg : zbit (A3 14 q) hh = 0 ∧ zbit (A3 15 q) hh = 0
      · have nb : ¬ zbit (zor (A3 14 q) (A3 15 q)) hh ≠ 0 := fun z => by
          rcases hor.1 z with z | z
          · exact z cg.1
          · exact z cg.2
        rw [if_neg nb] at hhas
        rw [if_neg (fun z => z cg.1), if_neg (fun z => z cg.2)] at hw
        obtain ⟨A4, B4, k1, k2', k3, k4, k5, k6⟩ := p_go hT3.1 d e (by omega) (by omega) 0 y0
        have hp3 := k6 _ (tk_pg hT3 (by omega)).1 (tk_pg hT3 (by omega)).2
        have v4 : vlP A4 B4 := vl_ag v3 (agX_a k4) (agY_g k5)
        have i14 : A4 14 q = A3 14 q := k4 _ _ (by omega)
        have i15 : A4 15 q = A3 15 q := k4 _ _ (by omega)
        obtain ⟨d', rfl⟩ : ∃ d', d = d' + 1 := ⟨d - 1, by omega⟩
        obtain ⟨A5, B5, r, w, c1, c2, c3, c4, c5⟩ := p_way k3 d' e (by omega) (by omega) 0 y0
        rcases c5 with ⟨rfl, d1, d2, d3, d4⟩ | ⟨rfl, rfl, d1⟩
        · rw [d2] at c1
          have g5 : B5 197 13 = w := by rw [d3, zup_e (by omega)]
          have f20 : ∀ i, B5 200 i = B4 200 i := fun i => by rw [d3, zup_f (by omega)]
          have v5 : vlP A4 B5 := vl_ag v4 agX_r c4
          have hT5 : tkR A4 B5 := tkR_fr k3 (fun _ _ _ => rfl) (fun x y z => by rw [d3, zup_f (by omega)])
          have lf4 := v5.lf q (by omega) (by omega)
          have rt4 := v5.rt q (by omega) (by omega)
          have hsb := zsh_bd (h := hh) (by omega) (by omega)
          obtain ⟨Dm, hDm⟩ : ∃ Dm, Dm = zup B5 200 ((if w = 0 then 40 else 45) + q) (zor (B5 200 ((if w = 0 then 40 else 45) + q)) (zshl 1 hh)) := ⟨_, rfl⟩
          have hTD : tkR A4 Dm := tkR_fr hT5 (fun _ _ _ => rfl) (fun x y z => by rw [hDm, zup_f (by omega)])
          obtain ⟨A6, B6, m1, m2, m3, m4, m5, m6⟩ := p_go hTD.1 d' e (by omega) (by omega) 0 y0
          have hp4 := m6 _ (tk_pg k3 (by omega)).1 (tk_pg k3 (by omega)).2
          have hturn := s_turn11 (d' + 1) (by omega) 0 hh 0 q 0 w 0 A6 (by omega) (by omega) (by omega) (by omega)
          have e14 : A6 14 q = A3 14 q := by rw [m4 _ _ (by omega)]; exact i14
          have e15 : A6 15 q = A3 15 q := by rw [m4 _ _ (by omega)]; exact i15
          rw [e14, e15, zclr l2 l3 (by omega) (by omega) cg.1, zclr r2 r3 (by omega) (by omega) cg.2] at hturn
          have htw : zEm true (d' + 1) 148 [(27, 2, 0)] A4 = some ((0, w, 0), A6) := by
            simp (disch := first | assumption | exact zrm0 | exact zrm1 _ | exact zrm2 _ _ | exact zrm3 _ _ _ | exact zrm4 _ _ _ _ | omega) only [m148, ↓k_dp, ↓k_dn, k_dp, k_dn, k_dT, k_dF, k_ip, k_in, if_true, if_false, ne_eq, not_true_eq_false, not_false_eq_true, Int.reduceAdd, zup_a, zup_e, zup_j, z32_id, k_al0, k_v1r, k_is1, k_il1, k_ic, k_iceq, k_v1, k_ri, zb0_some, zb1_some, e148_0, e148_1, e148_4, e148_5, e148_6, e148_7, e148_10, e148_11, e148_14, e148_15, c1, m1]
          have fA : frV A A6 := fun x y z1 z2 z3 => by rw [m4 x y (by omega), k4 x y (by omega), b3 x y (by omega)]; exact a4 x y (by omega)
          have fB : frW B B5 := fun x y z1 z2 z3 z4 => by rw [c4 x y z1, k5 x y (by omega), f4 x y z1, b4 x y z1]; exact a5 x y (by omega)
          have v6 : vlP A6 B5 := vl_ag v5 (agX_a m4) agY_r
          by_cases cw : w = 0
          · rw [if_pos cw] at hturn hDm
            have e6 : zup A6 15 q (A3 15 q) = A6 := by
              funext x y
              by_cases z : x = 15 ∧ y = q
              · rw [z.1, z.2, zup_e (by omega)]; exact e15.symm
              · exact zup_f z
            have e7 : zup (zup A6 14 q (zor (A3 14 q) (zshl 1 hh))) 15 q (A3 15 q) = zup A6 14 q (zor (A3 14 q) (zshl 1 hh)) := by
              funext x y
              by_cases z : x = 15 ∧ y = q
              · rw [z.1, z.2, zup_e (by omega), zup_a (by omega)]; exact e15.symm
              · exact zup_f z
            rw [e7] at hturn
            rw [hDm] at m2
            have hv := vl_u v6 (x := 14) (y := q) (i := 40 + q) (v := zor (A3 14 q) (zshl 1 hh)) (Or.inl ⟨rfl, rfl, by omega, by omega, zor_lt l2 l3 hsb.1 hsb.2⟩)
            refine ⟨zup A6 14 q (zor (A3 14 q) (zshl 1 hh)), B6, 1, ?_, ?_, ?_, ?_, Or.inl ⟨rfl, ?_, ?_, ?_⟩⟩
            · simp (disch := first | assumption | exact zrm0 | exact zrm1 _ | exact zrm2 _ _ | exact zrm3 _ _ _ | exact zrm4 _ _ _ _ | omega) only [m85, ↓k_dp, ↓k_dn, k_dp, k_dn, k_dT, k_dF, k_ip, k_in, if_true, if_false, ne_eq, not_true_eq_false, not_false_eq_true, Int.reduceAdd, zup_a, zup_e, zup_j, z32_id, k_al0, k_gR, k_v1, k_gI, k_v3r, k_is1, k_il1, k_ic, k_icne, k_goto, k_is2, k_il2, k_rz, k_iceq, k_v2r, k_v1r, k_is3, k_il3, k_v4, zb0_some, zb1_some, e85_0, e85_1, e85_4, e85_7, e85_8, e85_11, e85_12, e85_15, e85_18, e85_19, e85_22, e85_25, e85_28, e85_29, e85_30, e85_31, e85_34, e85_35, e85_38, e85_39, e85_42, e85_43, e85_46, e85_49, e85_50, e85_53, e85_56, e85_59, e85_60, e85_61, e85_62, e85_65, e85_66, e85_67, e85_68, e85_71, e85_72, e85_73, e85_76, e85_78, e85_81, e85_82, e85_85, e85_86, e85_89, e85_90, e85_91, e85_94, e85_97, e85_98, e85_101, e85_104, e85_105, e85_106, e85_107, e85_110, e85_111, e85_112, e85_113, e85_116, e85_117, e85_118, e85_119, e85_122, e85_123, a1, b1, f1, hw, k1, htw, hturn]
            · simp (disch := first | assumption | exact zrm0 | exact zrm1 _ | exact zrm2 _ _ | exact zrm3 _ _ _ | exact zrm4 _ _ _ _ | omega) only [m199, ↓k_dp, ↓k_dn, k_dp, k_dn, k_dT, k_dF, k_ip, k_in, if_true, if_false, ne_eq, not_true_eq_false, not_false_eq_true, Int.reduceAdd, zup_a, zup_e, zup_j, z32_id, k_al0, k_v1, k_ic, k_gR, k_ild, k_ildS, k_ildW, k_v3r, k_ifne, k_rz, k_gI, k_is1, k_is2, k_il2, k_iadd, k_ior, k_il1, k_s2r, k_ifeq, k_v2r, k_v1r, k_goto, k_dup2, k_ishl, k_ist, zb0_some, zb1_some, e199_0, e199_1, e199_4, e199_5, e199_6, e199_7, e199_10, e199_11, e199_12, e199_15, e199_18, e199_19, e199_20, e199_21, e199_24, e199_25, e199_26, e199_28, e199_29, e199_32, e199_33, e199_34, e199_37, e199_40, e199_41, e199_42, e199_43, e199_46, e199_47, e199_48, e199_51, e199_53, e199_54, e199_55, e199_56, e199_57, e199_60, e199_62, e199_63, e199_64, e199_65, e199_66, e199_67, e199_70, e199_73, e199_74, e199_75, e199_78, e199_79, e199_80, e199_83, e199_84, e199_87, e199_90, e199_91, e199_92, e199_93, e199_96, e199_97, e199_100, e199_103, e199_105, e199_108, e199_110, e199_111, e199_112, e199_113, e199_114, e199_115, e199_116, e199_117, e199_118, e199_119, e199_120, e199_123, e199_124, a2, b2, h13, f2, g13, l1', r1', hhas, k2', c2, g5, m2, cw]
            · exact fun x y z1 z2 z3 => by rw [zup_f (by omega)]; exact fA x y z1 z2 z3
            · exact fun x y z1 z2 z3 z4 => by rw [m5 x y (by omega), hDm, zup_f (by omega)]; exact fB x y z1 z2 z3 z4
            · exact tkR_fr m3 (fun x y z => zup_f (by omega)) (fun _ _ _ => rfl)
            · refine vl_fr hv (fun x y z => rfl) (fun x y z => ?_)
              rw [m5 x y (by omega), hDm, ← lf4.1, i14]
            · rw [zup_f (by omega)]
              omega
          · have cw1 : w = 1 := by omega
            rw [if_neg cw] at hturn hDm
            have e7 : zup A6 14 q (A3 14 q) = A6 := by
              funext x y
              by_cases z : x = 14 ∧ y = q
              · rw [z.1, z.2, zup_e (by omega)]; exact e14.symm
              · exact zup_f z
            rw [e7] at hturn
            rw [hDm] at m2
            have hv := vl_u v6 (x := 15) (y := q) (i := 45 + q) (v := zor (A3 15 q) (zshl 1 hh)) (Or.inr (Or.inl ⟨rfl, rfl, by omega, by omega, zor_lt r2 r3 hsb.1 hsb.2⟩))
            refine ⟨zup A6 15 q (zor (A3 15 q) (zshl 1 hh)), B6, 1, ?_, ?_, ?_, ?_, Or.inl ⟨rfl, ?_, ?_, ?_⟩⟩
            · simp (disch := first | assumption | exact zrm0 | exact zrm1 _ | exact zrm2 _ _ | exact zrm3 _ _ _ | exact zrm4 _ _ _ _ | omega) only [m85, ↓k_dp, ↓k_dn, k_dp, k_dn, k_dT, k_dF, k_ip, k_in, if_true, if_false, ne_eq, not_true_eq_false, not_false_eq_true, Int.reduceAdd, zup_a, zup_e, zup_j, z32_id, k_al0, k_gR, k_v1, k_gI, k_v3r, k_is1, k_il1, k_ic, k_icne, k_goto, k_is2, k_il2, k_rz, k_iceq, k_v2r, k_v1r, k_is3, k_il3, k_v4, zb0_some, zb1_some, e85_0, e85_1, e85_4, e85_7, e85_8, e85_11, e85_12, e85_15, e85_18, e85_19, e85_22, e85_25, e85_28, e85_29, e85_30, e85_31, e85_34, e85_35, e85_38, e85_39, e85_42, e85_43, e85_46, e85_49, e85_50, e85_53, e85_56, e85_59, e85_60, e85_61, e85_62, e85_65, e85_66, e85_67, e85_68, e85_71, e85_72, e85_73, e85_76, e85_78, e85_81, e85_82, e85_85, e85_86, e85_89, e85_90, e85_91, e85_94, e85_97, e85_98, e85_101, e85_104, e85_105, e85_106, e85_107, e85_110, e85_111, e85_112, e85_113, e85_116, e85_117, e85_118, e85_119, e85_122, e85_123, a1, b1, f1, hw, k1, htw, hturn]
            · simp (disch := first | assumption | exact zrm0 | exact zrm1 _ | exact zrm2 _ _ | exact zrm3 _ _ _ | exact zrm4 _ _ _ _ | omega) only [m199, ↓k_dp, ↓k_dn, k_dp, k_dn, k_dT, k_dF, k_ip, k_in, if_true, if_false, ne_eq, not_true_eq_false, not_false_eq_true, Int.reduceAdd, zup_a, zup_e, zup_j, z32_id, k_al0, k_v1, k_ic, k_gR, k_ild, k_ildS, k_ildW, k_v3r, k_ifne, k_rz, k_gI, k_is1, k_is2, k_il2, k_iadd, k_ior, k_il1, k_s2r, k_ifeq, k_v2r, k_v1r, k_goto, k_dup2, k_ishl, k_ist, zb0_some, zb1_some, e199_0, e199_1, e199_4, e199_5, e199_6, e199_7, e199_10, e199_11, e199_12, e199_15, e199_18, e199_19, e199_20, e199_21, e199_24, e199_25, e199_26, e199_28, e199_29, e199_32, e199_33, e199_34, e199_37, e199_40, e199_41, e199_42, e199_43, e199_46, e199_47, e199_48, e199_51, e199_53, e199_54, e199_55, e199_56, e199_57, e199_60, e199_62, e199_63, e199_64, e199_65, e199_66, e199_67, e199_70, e199_73, e199_74, e199_75, e199_78, e199_79, e199_80, e199_83, e199_84, e199_87, e199_90, e199_91, e199_92, e199_93, e199_96, e199_97, e199_100, e199_103, e199_105, e199_108, e199_110, e199_111, e199_112, e199_113, e199_114, e199_115, e199_116, e199_117, e199_118, e199_119, e199_120, e199_123, e199_124, a2, b2, h13, f2, g13, l1', r1', hhas, k2', c2, g5, m2, cw1]
            · exact fun x y z1 z2 z3 => by rw [zup_f (by omega)]; exact fA x y z1 z2 z3
            · exact fun x y z1 z2 z3 z4 => by rw [m5 x y (by omega), hDm, zup_f (by omega)]; exact fB x y z1 z2 z3 z4
            · exact tkR_fr m3 (fun x y z => zup_f (by omega)) (fun _ _ _ => rfl)
            · refine vl_fr hv (fun x y z => rfl) (fun x y z => ?_)
              rw [m5 x y (by omega), hDm, ← rt4.1, i15]
            · rw [zup_f (by omega)]
              omega
        · have htw : zEm true (d' + 1) 148 [(27, 2, 0)] A4 = some ((0, -1, 0), A5) := by
            simp (disch := first | assumption | exact zrm0 | exact zrm1 _ | exact zrm2 _ _ | exact zrm3 _ _ _ | exact zrm4 _ _ _ _ | omega) only [m148, ↓k_dp, ↓k_dn, k_dp, k_dn, k_dT, k_dF, k_ip, k_in, if_true, if_false, ne_eq, not_true_eq_false, not_false_eq_true, Int.reduceAdd, zup_a, zup_e, zup_j, z32_id, k_al0, k_v1r, k_is1, k_il1, k_ic, k_iceq, k_v1, k_ri, zb0_some, zb1_some, e148_0, e148_1, e148_4, e148_5, e148_6, e148_7, e148_10, e148_11, e148_14, e148_15, c1]
          refine ⟨A5, B5, 0, ?_, ?_, fun x y p1 p2 p3 => ?_, fun x y p1 p2 p3 p4 => ?_, Or.inr ⟨rfl, d1⟩⟩
          · simp (disch := first | assumption | exact zrm0 | exact zrm1 _ | exact zrm2 _ _ | exact zrm3 _ _ _ | exact zrm4 _ _ _ _ | omega) only [m85, ↓k_dp, ↓k_dn, k_dp, k_dn, k_dT, k_dF, k_ip, k_in, if_true, if_false, ne_eq, not_true_eq_false, not_false_eq_true, Int.reduceAdd, zup_a, zup_e, zup_j, z32_id, k_al0, k_gR, k_v1, k_gI, k_v3r, k_is1, k_il1, k_ic, k_icne, k_goto, k_is2, k_il2, k_rz, k_iceq, k_v2r, k_v1r, k_is3, k_il3, k_v4, zb0_some, zb1_some, e85_0, e85_1, e85_4, e85_7, e85_8, e85_11, e85_12, e85_15, e85_18, e85_19, e85_22, e85_25, e85_28, e85_29, e85_30, e85_31, e85_34, e85_35, e85_38, e85_39, e85_42, e85_43, e85_46, e85_49, e85_50, e85_53, e85_56, e85_59, e85_60, e85_61, e85_62, e85_65, e85_66, e85_67, e85_68, e85_71, e85_72, e85_73, e85_76, e85_78, e85_81, e85_82, e85_85, e85_86, e85_89, e85_90, e85_91, e85_94, e85_97, e85_98, e85_101, e85_104, e85_105, e85_106, e85_107, e85_110, e85_111, e85_112, e85_113, e85_116, e85_117, e85_118, e85_119, e85_122, e85_123, a1, b1, f1, hw, k1, htw]
          · simp (disch := first | assumption | exact zrm0 | exact zrm1 _ | exact zrm2 _ _ | exact zrm3 _ _ _ | exact zrm4 _ _ _ _ | omega) only [m199, ↓k_dp, ↓k_dn, k_dp, k_dn, k_dT, k_dF, k_ip, k_in, if_true, if_false, ne_eq, not_true_eq_false, not_false_eq_true, Int.reduceAdd, zup_a, zup_e, zup_j, z32_id, k_al0, k_v1, k_ic, k_gR, k_ild, k_ildS, k_ildW, k_v3r, k_ifne, k_rz, k_gI, k_is1, k_is2, k_il2, k_iadd, k_ior, k_il1, k_s2r, k_ifeq, k_v2r, k_v1r, k_goto, k_dup2, k_ishl, k_ist, zb0_some, zb1_some, e199_0, e199_1, e199_4, e199_5, e199_6, e199_7, e199_10, e199_11, e199_12, e199_15, e199_18, e199_19, e199_20, e199_21, e199_24, e199_25, e199_26, e199_28, e199_29, e199_32, e199_33, e199_34, e199_37, e199_40, e199_41, e199_42, e199_43, e199_46, e199_47, e199_48, e199_51, e199_53, e199_54, e199_55, e199_56, e199_57, e199_60, e199_62, e199_63, e199_64, e199_65, e199_66, e199_67, e199_70, e199_73, e199_74, e199_75, e199_78, e199_79, e199_80, e199_83, e199_84, e199_87, e199_90, e199_91, e199_92, e199_93, e199_96, e199_97, e199_100, e199_103, e199_105, e199_108, e199_110, e199_111, e199_112, e199_113, e199_114, e199_115, e199_116, e199_117, e199_118, e199_119, e199_120, e199_123, e199_124, a2, b2, h13, f2, g13, l1', r1', hhas, k2', c2]
          · rw [c3 x y (by omega), k4 x y (by omega), b3 x y (by omega)]; exact a4 x y (by omega)
          · rw [c4 x y p1, k5 x y (by omega), f4 x y p1, b4 x y p1]; exact a5 x y (by omega)
      · have h27 : B3 197 7 = 2 := hT3.2.wo h5
        obtain ⟨Af, Bf, z1, z2, z3, z4, z5⟩ := p_fail hT3 (k := 3) (by omega) (by omega) (fun z => by omega)
        have z1' := z1 d 0 0 (by omega)
        have z2' := z2 e y0 0 (by omega)
        have nb : zbit (zor (A3 14 q) (A3 15 q)) hh ≠ 0 := by
          rw [hor]
          by_cases z : zbit (A3 14 q) hh = 0
          · exact Or.inr (fun z2 => cg ⟨z, z2⟩)
          · exact Or.inl z
        rw [if_pos nb] at hhas
        have hwn : ∃ ww, ww ≠ -2 ∧ zEm true d 117 [(26, 11, 0), (0, hh, 0), (0, q, 0)] A3 = some ((0, ww, 0), A3) := by
          refine ⟨_, ?_, hw⟩
          by_cases z : zbit (A3 14 q) hh = 0
          · rw [if_neg (fun zz => zz z), if_pos (fun z2 => cg ⟨z, z2⟩)]; omega
          · rw [if_pos z]; omega
        obtain ⟨ww, hww, hw'⟩ := hwn
        refine ⟨Af, Bf, 0, ?_, ?_, fun x y p1 p2 p3 => ?_, fun x y p1 p2 p3 p4 => ?_, Or.inr ⟨rfl, z5⟩⟩
        · simp (disch := first | assumption | exact zrm0 | exact zrm1 _ | exact zrm2 _ _ | exact zrm3 _ _ _ | exact zrm4 _ _ _ _ | omega) only [m85, ↓k_dp, ↓k_dn, k_dp, k_dn, k_dT, k_dF, k_ip, k_in, if_true, if_false, ne_eq, not_true_eq_false, not_false_eq_true, Int.reduceAdd, zup_a, zup_e, zup_j, z32_id, k_al0, k_gR, k_v1, k_gI, k_v3r, k_is1, k_il1, k_ic, k_icne, k_goto, k_is2, k_il2, k_rz, k_iceq, k_v2r, k_v1r, k_is3, k_il3, k_v4, zb0_some, zb1_some, e85_0, e85_1, e85_4, e85_7, e85_8, e85_11, e85_12, e85_15, e85_18, e85_19, e85_22, e85_25, e85_28, e85_29, e85_30, e85_31, e85_34, e85_35, e85_38, e85_39, e85_42, e85_43, e85_46, e85_49, e85_50, e85_53, e85_56, e85_59, e85_60, e85_61, e85_62, e85_65, e85_66, e85_67, e85_68, e85_71, e85_72, e85_73, e85_76, e85_78, e85_81, e85_82, e85_85, e85_86, e85_89, e85_90, e85_91, e85_94, e85_97, e85_98, e85_101, e85_104, e85_105, e85_106, e85_107, e85_110, e85_111, e85_112, e85_113, e85_116, e85_117, e85_118, e85_119, e85_122, e85_123, a1, b1, f1, hw', z1']
        · simp (disch := first | assumption | exact zrm0 | exact zrm1 _ | exact zrm2 _ _ | exact zrm3 _ _ _ | exact zrm4 _ _ _ _ | omega) only [m199, ↓k_dp, ↓k_dn, k_dp, k_dn, k_dT, k_dF, k_ip, k_in, if_true, if_false, ne_eq, not_true_eq_false, not_false_eq_true, Int.reduceAdd, zup_a, zup_e, zup_j, z32_id, k_al0, k_v1, k_ic, k_gR, k_ild, k_ildS, k_ildW, k_v3r, k_ifne, k_rz, k_gI, k_is1, k_is2, k_il2, k_iadd, k_ior, k_il1, k_s2r, k_ifeq, k_v2r, k_v1r, k_goto, k_dup2, k_ishl, k_ist, zb0_some, zb1_some, e199_0, e199_1, e199_4, e199_5, e199_6, e199_7, e199_10, e199_11, e199_12, e199_15, e199_18, e199_19, e199_20, e199_21, e199_24, e199_25, e199_26, e199_28, e199_29, e199_32, e199_33, e199_34, e199_37, e199_40, e199_41, e199_42, e199_43, e199_46, e199_47, e199_48, e199_51, e199_53, e199_54, e199_55, e199_56, e199_57, e199_60, e199_62, e199_63, e199_64, e199_65, e199_66, e199_67, e199_70, e199_73, e199_74, e199_75, e199_78, e199_79, e199_80, e199_83, e199_84, e199_87, e199_90, e199_91, e199_92, e199_93, e199_96, e199_97, e199_100, e199_103, e199_105, e199_108, e199_110, e199_111, e199_112, e199_113, e199_114, e199_115, e199_116, e199_117, e199_118, e199_119, e199_120, e199_123, e199_124, a2, b2, h13, f2, g13, l1', r1', hhas, z2']
        · rw [z3 x y (by omega), b3 x y (by omega)]; exact a4 x y (by omega)
        · rw [z4 x y p1, f4 x y p1, b4 x y p1]; exact a5 x y (by omega)
    · refine ⟨A3, B3, 0, ?_, ?_, fun x y p1 p2 p3 => ?_, fun x y p1 p2 p3 p4 => ?_, Or.inr ⟨rfl, f5⟩⟩
      · simp (disch := first | assumption | exact zrm0 | exact zrm1 _ | exact zrm2 _ _ | exact zrm3 _ _ _ | exact zrm4 _ _ _ _ | omega) only [m85, ↓k_dp, ↓k_dn, k_dp, k_dn, k_dT, k_dF, k_ip, k_in, if_true, if_false, ne_eq, not_true_eq_false, not_false_eq_true, Int.reduceAdd, zup_a, zup_e, zup_j, z32_id, k_al0, k_gR, k_v1, k_gI, k_v3r, k_is1, k_il1, k_ic, k_icne, k_goto, k_is2, k_il2, k_rz, k_iceq, k_v2r, k_v1r, k_is3, k_il3, k_v4, zb0_some, zb1_some, e85_0, e85_1, e85_4, e85_7, e85_8, e85_11, e85_12, e85_15, e85_18, e85_19, e85_22, e85_25, e85_28, e85_29, e85_30, e85_31, e85_34, e85_35, e85_38, e85_39, e85_42, e85_43, e85_46, e85_49, e85_50, e85_53, e85_56, e85_59, e85_60, e85_61, e85_62, e85_65, e85_66, e85_67, e85_68, e85_71, e85_72, e85_73, e85_76, e85_78, e85_81, e85_82, e85_85, e85_86, e85_89, e85_90, e85_91, e85_94, e85_97, e85_98, e85_101, e85_104, e85_105, e85_106, e85_107, e85_110, e85_111, e85_112, e85_113, e85_116, e85_117, e85_118, e85_119, e85_122, e85_123, a1, b1, f1]
      · simp (disch := first | assumption | exact zrm0 | exact zrm1 _ | exact zrm2 _ _ | exact zrm3 _ _ _ | exact zrm4 _ _ _ _ | omega) only [m199, ↓k_dp, ↓k_dn, k_dp, k_dn, k_dT, k_dF, k_ip, k_in, if_true, if_false, ne_eq, not_true_eq_false, not_false_eq_true, Int.reduceAdd, zup_a, zup_e, zup_j, z32_id, k_al0, k_v1, k_ic, k_gR, k_ild, k_ildS, k_ildW, k_v3r, k_ifne, k_rz, k_gI, k_is1, k_is2, k_il2, k_iadd, k_ior, k_il1, k_s2r, k_ifeq, k_v2r, k_v1r, k_goto, k_dup2, k_ishl, k_ist, zb0_some, zb1_some, e199_0, e199_1, e199_4, e199_5, e199_6, e199_7, e199_10, e199_11, e199_12, e199_15, e199_18, e199_19, e199_20, e199_21, e199_24, e199_25, e199_26, e199_28, e199_29, e199_32, e199_33, e199_34, e199_37, e199_40, e199_41, e199_42, e199_43, e199_46, e199_47, e199_48, e199_51, e199_53, e199_54, e199_55, e199_56, e199_57, e199_60, e199_62, e199_63, e199_64, e199_65, e199_66, e199_67, e199_70, e199_73, e199_74, e199_75, e199_78, e199_79, e199_80, e199_83, e199_84, e199_87, e199_90, e199_91, e199_92, e199_93, e199_96, e199_97, e199_100, e199_103, e199_105, e199_108, e199_110, e199_111, e199_112, e199_113, e199_114, e199_115, e199_116, e199_117, e199_118, e199_119, e199_120, e199_123, e199_124, a2, b2, h13, f2]
      · rw [f3 x y (by omega), b3 x y (by omega)]; exact a4 x y (by omega)
      · rw [f4 x y p1, b4 x y p1]; exact a5 x y (by omega)
  · refine ⟨A2, B2, 0, ?_, ?_, fun x y p1 p2 p3 => ?_, fun x y p1 p2 p3 p4 => ?_, Or.inr ⟨rfl, b5⟩⟩
    · simp (disch := first | assumption | exact zrm0 | exact zrm1 _ | exact zrm2 _ _ | exact zrm3 _ _ _ | exact zrm4 _ _ _ _ | omega) only [m85, ↓k_dp, ↓k_dn, k_dp, k_dn, k_dT, k_dF, k_ip, k_in, if_true, if_false, ne_eq, not_true_eq_false, not_false_eq_true, Int.reduceAdd, zup_a, zup_e, zup_j, z32_id, k_al0, k_gR, k_v1, k_gI, k_v3r, k_is1, k_il1, k_ic, k_icne, k_goto, k_is2, k_il2, k_rz, k_iceq, k_v2r, k_v1r, k_is3, k_il3, k_v4, zb0_some, zb1_some, e85_0, e85_1, e85_4, e85_7, e85_8, e85_11, e85_12, e85_15, e85_18, e85_19, e85_22, e85_25, e85_28, e85_29, e85_30, e85_31, e85_34, e85_35, e85_38, e85_39, e85_42, e85_43, e85_46, e85_49, e85_50, e85_53, e85_56, e85_59, e85_60, e85_61, e85_62, e85_65, e85_66, e85_67, e85_68, e85_71, e85_72, e85_73, e85_76, e85_78, e85_81, e85_82, e85_85, e85_86, e85_89, e85_90, e85_91, e85_94, e85_97, e85_98, e85_101, e85_104, e85_105, e85_106, e85_107, e85_110, e85_111, e85_112, e85_113, e85_116, e85_117, e85_118, e85_119, e85_122, e85_123, a1, b1]
    · simp (disch := first | assumption | exact zrm0 | exact zrm1 _ | exact zrm2 _ _ | exact zrm3 _ _ _ | exact zrm4 _ _ _ _ | omega) only [m199, ↓k_dp, ↓k_dn, k_dp, k_dn, k_dT, k_dF, k_ip, k_in, if_true, if_false, ne_eq, not_true_eq_false, not_false_eq_true, Int.reduceAdd, zup_a, zup_e, zup_j, z32_id, k_al0, k_v1, k_ic, k_gR, k_ild, k_ildS, k_ildW, k_v3r, k_ifne, k_rz, k_gI, k_is1, k_is2, k_il2, k_iadd, k_ior, k_il1, k_s2r, k_ifeq, k_v2r, k_v1r, k_goto, k_dup2, k_ishl, k_ist, zb0_some, zb1_some, e199_0, e199_1, e199_4, e199_5, e199_6, e199_7, e199_10, e199_11, e199_12, e199_15, e199_18, e199_19, e199_20, e199_21, e199_24, e199_25, e199_26, e199_28, e199_29, e199_32, e199_33, e199_34, e199_37, e199_40, e199_41, e199_42, e199_43, e199_46, e199_47, e199_48, e199_51, e199_53, e199_54, e199_55, e199_56, e199_57, e199_60, e199_62, e199_63, e199_64, e199_65, e199_66, e199_67, e199_70, e199_73, e199_74, e199_75, e199_78, e199_79, e199_80, e199_83, e199_84, e199_87, e199_90, e199_91, e199_92, e199_93, e199_96, e199_97, e199_100, e199_103, e199_105, e199_108, e199_110, e199_111, e199_112, e199_113, e199_114, e199_115, e199_116, e199_117, e199_118, e199_119, e199_120, e199_123, e199_124, a2, b2]
    · rw [b3 x y (by omega)]; exact a4 x y (by omega)
    · rw [b4 x y p1]; exact a5 x y (by omega)
