/-! a book is read, whole -/
theorem l_bread {A B : zM} (ra : relTT A B) (nb : nmB A B) (d e : Nat) (hd : 10 ≤ d) (he : 10 ≤ e) (lv y y0 : Int) (hlv : lv = 0 ∨ lv = 1) : ∃ A' B' r, zEm true (d + 1) 98 [(24, 1, 0), (28, 30, 0)] A = some ((0, r, 0), A') ∧ (∀ x y, ¬ (x = 2 ∧ 2 ≤ y ∧ y ≤ 11) → ¬ (x = 25 ∧ y = 4) → ¬ (26 ≤ x ∧ x ≤ 29) → A' x y = A x y) ∧ (∀ x y, ¬ (x = 197 ∧ (y = 0 ∨ 2 ≤ y ∧ y ≤ 13 ∨ y = 43)) → x ≠ 216 → B' x y = B x y) ∧ B' 197 0 = 0 ∧ B' 197 2 = 0 ∧ ((r = 0 ∧ flR A' B' ∧ zEm true (e + 1) 283 [(30, 197, y0), (0, lv, y)] B = some ((0, -2 - B' 197 11, 0), B')) ∨ (r = 1 ∧ A' 2 10 = 0 ∧ B' 197 10 = 0 ∧ (0 ≤ A' 25 4 ∧ A' 25 4 ≤ 40) ∧ B' 197 43 = A' 25 4 ∧ bkQ A' B' (A' 25 4) ∧ zEm true (e + 1) 283 [(30, 197, y0), (0, lv, y)] B = zEv true e 283 65 [(30, 197, y0), (0, lv, y), (3, 0, 0), (3, 0, 0)] [] B')) := by
  obtain ⟨A0, hA0⟩ : ∃ A0, A0 = zup A 25 4 0 := ⟨_, rfl⟩
  obtain ⟨B0, hB0⟩ : ∃ B0, B0 = zup B 197 0 0 := ⟨_, rfl⟩
  have fA0 : ∀ x y, ¬ (x = 25 ∧ y = 4) → A0 x y = A x y := fun x y z => by rw [hA0, zup_f z]
  have fB0 : ∀ x y, ¬ (x = 197 ∧ y = 0) → B0 x y = B x y := fun x y z => by rw [hB0, zup_f z]
  have ra0 : relTT A0 B0 := by
    obtain ⟨t1, t2, t3⟩ := ra
    refine ⟨by rw [fA0 _ _ (by omega)]; exact t1, by rw [fA0 _ _ (by omega), fB0 _ _ (by omega)]; exact t2, fun i i0 i1 => ?_⟩
    rw [fA0 _ _ (by omega), fB0 _ _ (by omega)]
    exact t3 i i0 i1
  obtain ⟨A1, B1, a1, a2, a3, a4, a5, a6, a7, a8⟩ := p_begin ra0 (L := 400) (by omega) (by omega) d e (by omega) (by omega) 0 0 y0 0
  obtain ⟨C1, hC1⟩ : ∃ C1, C1 = zup B1 197 43 0 := ⟨_, rfl⟩
  have fC1 : ∀ x y, ¬ (x = 197 ∧ y = 43) → C1 x y = B1 x y := fun x y z => by rw [hC1, zup_f z]
  have e4 : A1 25 4 = 0 := by rw [a4 _ _ (by omega), hA0, zup_e (by omega)]
  have h43 : C1 197 43 = 0 := by rw [hC1, zup_e (by omega)]
  have hT : tkR A1 C1 := tkR_fr a3 (fun _ _ _ => rfl) (fun x y z => fC1 x y (by omega))
  have nb1 : nmB A1 C1 := nmB_fr nb (fun x y z => by rw [a4 x y (by omega), fA0 x y (by omega)]) (fun x y z => by rw [fC1 x y (by omega), a5 x y (by omega), fB0 x y (by omega)])
  obtain ⟨A', B', b1, b2, b3⟩ := p_bloop d e hd he 0 0 y0 lv y (3, 0, 0) (3, 0, 0) 40 0 A1 C1 hT nb1 (by omega) (by omega) e4 h43 (fun j j0 j1 => by omega)
  have fA : ∀ x y, ¬ (x = 2 ∧ 2 ≤ y ∧ y ≤ 11) → ¬ (x = 25 ∧ y = 4) → ¬ (26 ≤ x ∧ x ≤ 29) → A' x y = A x y := fun x y z1 z2 z3 => by
    rw [b1 x y (by omega) z2 z3, a4 x y (by omega), fA0 x y z2]
  have fB : ∀ x y, ¬ (x = 197 ∧ (y = 0 ∨ 2 ≤ y ∧ y ≤ 13 ∨ y = 43)) → x ≠ 216 → B' x y = B x y := fun x y z1 z2 => by
    rw [b2 x y (by omega) (by omega) z2, fC1 x y (by omega), a5 x y (by omega), fB0 x y (by omega)]
  have g0 : B' 197 0 = 0 := by rw [b2 _ _ (by omega) (by omega) (by omega), fC1 _ _ (by omega)]; exact a8
  have g2 : B' 197 2 = 0 := by rw [b2 _ _ (by omega) (by omega) (by omega), fC1 _ _ (by omega)]; exact a7
  have hA : ∀ r N, zEv true d 98 20 [(24, 1, 0), (28, 30, 0), (0, 0, 0)] [] A1 = some ((0, r, 0), N) → zEm true (d + 1) 98 [(24, 1, 0), (28, 30, 0)] A = some ((0, r, 0), N) := fun r N h => by
    rw [← h]
    rw [hA0] at a1
    simp (disch := first | assumption | exact zrm0 | exact zrm1 _ | exact zrm2 _ _ | exact zrm3 _ _ _ | exact zrm4 _ _ _ _ | omega) only [m98, ↓k_dp, ↓k_dn, k_dp, k_dn, k_dT, k_dF, k_ip, k_in, if_true, if_false, ne_eq, not_true_eq_false, not_false_eq_true, Int.reduceAdd, zup_a, zup_e, zup_j, z32_id, k_al0, k_gR, k_ic, k_pI, k_v2, k_is2, k_il2, k_icgt, k_v1r, k_ifne, k_al1, k_v2r, k_ifeq, k_rz, k_inc2, k_goto, zb0_some, zb1_some, e98_0, e98_1, e98_4, e98_5, e98_8, e98_9, e98_12, e98_15, e98_18, e98_19, e98_21, e98_23, e98_26, e98_27, e98_30, e98_33, e98_36, e98_37, e98_38, e98_41, e98_44, e98_45, e98_48, e98_50, e98_53, e98_56, e98_57, e98_58, e98_61, e98_64, e98_65, e98_68, e98_71, a1]
  have hB : zEm true (e + 1) 283 [(30, 197, y0), (0, lv, y)] B = zEv true e 283 30 [(30, 197, y0), (0, lv, y), (3, 0, 0), (3, 0, 0)] [] C1 := by
    have hi : ∀ y', zEm true e 168 [(0, lv, y'), (0, 0, 0), (0, 1, 0)] B0 = some ((0, 1, 0), B0) := fun y' => by
      obtain ⟨e, rfl⟩ : ∃ e', e = e' + 1 := ⟨e - 1, by omega⟩
      rw [r_isIn, if_pos (by omega)]
    rw [hB0] at hi a2
    rw [hC1]
    simp (disch := first | assumption | exact zrm0 | exact zrm1 _ | exact zrm2 _ _ | exact zrm3 _ _ _ | exact zrm4 _ _ _ _ | omega) only [m283, ↓k_dp, ↓k_dn, k_dp, k_dn, k_dT, k_dF, k_ip, k_in, if_true, if_false, ne_eq, not_true_eq_false, not_false_eq_true, Int.reduceAdd, zup_a, zup_e, zup_j, z32_id, k_al0, k_ic, k_pI, k_il1, k_s3r, k_ifne, k_ri, k_v2, k_gI, k_ifeq, k_v1r, k_isub, k_dup, k_iadd, k_goto, k_v1, k_is2, k_is3, k_il2, k_icge, k_il3, k_imul, k_v2r, k_inc2, k_gR, k_ist, k_ild, k_ildS, k_ildW, k_pZ, k_icne, k_ifle, zb0_some, zb1_some, e283_0, e283_1, e283_2, e283_5, e283_6, e283_7, e283_8, e283_11, e283_14, e283_17, e283_18, e283_19, e283_22, e283_25, e283_26, e283_27, e283_31, e283_34, e283_37, e283_38, e283_41, e283_44, e283_46, e283_47, e283_50, e283_51, e283_52, e283_53, e283_54, e283_57, e283_58, e283_59, e283_62, e283_65, e283_66, e283_69, e283_70, e283_71, e283_72, e283_73, e283_74, e283_75, e283_78, e283_81, e283_82, e283_85, e283_86, e283_87, e283_88, e283_89, e283_92, e283_93, e283_94, e283_97, e283_100, e283_103, e283_104, e283_107, e283_108, e283_109, e283_110, e283_111, e283_114, e283_115, e283_116, e283_117, e283_118, e283_121, e283_122, e283_123, e283_126, e283_128, e283_129, e283_130, e283_131, e283_134, e283_135, e283_136, e283_137, e283_140, e283_141, e283_142, e283_143, e283_146, e283_147, e283_148, e283_149, e283_152, e283_153, e283_156, e283_157, e283_160, e283_161, e283_164, e283_165, e283_168, e283_169, e283_172, e283_173, hi, a2]
  rcases b3 with ⟨c1, c2, c3⟩ | ⟨K, c0, c1, c2, c3, c4, c5, c6⟩
  · exact ⟨A', B', 0, hA _ _ c2, fA, fB, g0, g2, Or.inl ⟨rfl, c1, hB.trans c3⟩⟩
  · rw [← c2] at c0 c3 c4
    exact ⟨A', B', 1, hA _ _ c5, fA, fB, g0, g2, Or.inr ⟨rfl, c1.1.f0, c1.1.g0, c0, c3, c4, hB.trans c6⟩⟩
theorem zcpy_id {M : zM} {a sp b dp n : Int} (h : ∀ y, dp ≤ y → y < dp + n → M a (sp + (y - dp)) = M b y) : zcpy M a sp b dp n = M := by
  funext x y
  by_cases c : x = b ∧ dp ≤ y ∧ y < dp + n
  · obtain ⟨rfl, c1, c2⟩ := c
    unfold zcpy
    split
    · exact h y c1 c2
    · rfl
  · exact zcpy_z (by omega)
theorem cpS_id {M : zM} {a b : Int} (h : ∀ i y, sdom i y → M (a + i) y = M (b + i) y) : cpS M a b = M := by
  have e1 : ∀ y, 0 ≤ y → y < 10 → M (b + 1) y = M (a + 1) y := fun y y0 y1 => (h 1 y (by unfold sdom; omega)).symm
  have e2 : ∀ y, 0 ≤ y → y < 10 → M (b + 2) y = M (a + 2) y := fun y y0 y1 => (h 2 y (by unfold sdom; omega)).symm
  have e3 : ∀ y, 0 ≤ y → y < 5 → M (b + 3) y = M (a + 3) y := fun y y0 y1 => (h 3 y (by unfold sdom; omega)).symm
  have e4 : ∀ y, 0 ≤ y → y < 5 → M (b + 4) y = M (a + 4) y := fun y y0 y1 => (h 4 y (by unfold sdom; omega)).symm
  have e5 : ∀ y, 0 ≤ y → y < 5 → M (b + 5) y = M (a + 5) y := fun y y0 y1 => (h 5 y (by unfold sdom; omega)).symm
  have e6 : ∀ y, 0 ≤ y → y < 5 → M (b + 6) y = M (a + 6) y := fun y y0 y1 => (h 6 y (by unfold sdom; omega)).symm
  have e7 : ∀ y, 0 ≤ y → y < 5 → M (b + 7) y = M (a + 7) y := fun y y0 y1 => (h 7 y (by unfold sdom; omega)).symm
  have e8 : ∀ y, 0 ≤ y → y < 2 → M (b + 8) y = M (a + 8) y := fun y y0 y1 => (h 8 y (by unfold sdom; omega)).symm
  have f8 : M a 8 = M b 8 := by have := h 0 8 (by unfold sdom; omega); rwa [Int.add_zero, Int.add_zero] at this
  have f9 : M a 9 = M b 9 := by have := h 0 9 (by unfold sdom; omega); rwa [Int.add_zero, Int.add_zero] at this
  have ft : M a 10 = M b 10 := by have := h 0 10 (by unfold sdom; omega); rwa [Int.add_zero, Int.add_zero] at this
  have q1 : zcpy M (b + 1) 0 (a + 1) 0 10 = M := zcpy_id (fun y y0 y1 => by rw [show 0 + (y - 0) = y by omega]; exact e1 y y0 (by omega))
  have q2 : zcpy M (b + 2) 0 (a + 2) 0 10 = M := zcpy_id (fun y y0 y1 => by rw [show 0 + (y - 0) = y by omega]; exact e2 y y0 (by omega))
  have q3 : zcpy M (b + 3) 0 (a + 3) 0 5 = M := zcpy_id (fun y y0 y1 => by rw [show 0 + (y - 0) = y by omega]; exact e3 y y0 (by omega))
  have q4 : zcpy M (b + 4) 0 (a + 4) 0 5 = M := zcpy_id (fun y y0 y1 => by rw [show 0 + (y - 0) = y by omega]; exact e4 y y0 (by omega))
  have q5 : zcpy M (b + 5) 0 (a + 5) 0 5 = M := zcpy_id (fun y y0 y1 => by rw [show 0 + (y - 0) = y by omega]; exact e5 y y0 (by omega))
  have q6 : zcpy M (b + 6) 0 (a + 6) 0 5 = M := zcpy_id (fun y y0 y1 => by rw [show 0 + (y - 0) = y by omega]; exact e6 y y0 (by omega))
  have q7 : zcpy M (b + 7) 0 (a + 7) 0 5 = M := zcpy_id (fun y y0 y1 => by rw [show 0 + (y - 0) = y by omega]; exact e7 y y0 (by omega))
  have q8 : zcpy M (b + 8) 0 (a + 8) 0 2 = M := zcpy_id (fun y y0 y1 => by rw [show 0 + (y - 0) = y by omega]; exact e8 y y0 (by omega))
  unfold cpS
  rw [q1, q2, q3, q4, q5, q6, q7, q8, zup_id f8, zup_id f9, zup_id ft]
