/-! the class's agenda -/
theorem c_carr0 (d : Nat) (x0 n y : Int) (N : zM) (hG : okG (zvG N 30)) (n1 : n ≤ 5) : ∀ (r : List Int) (i c : Int) (T : zM), zt T = T → 0 ≤ i → i + r.length = n → 0 ≤ c → c ≤ i → (∀ t : Int, 0 ≤ t → t < r.length → N 80 (i + t) = r.getD t.toNat 0) → (∀ q, q ∈ r → 0 ≤ q ∧ q < 5) → ∃ T', zEv true (d + 5) 55 23 [(29, 0, x0), (0, n, y), (0, c, 0), (0, i, 0)] [] (zput N 68 T) = some ((0, c + sVal (zvG N 30) T r, 0), zput N 68 T')
  | [], i, c, T, hz, i0, hi, c0, c1, hr, hq => by
    simp at hi
    refine ⟨T, ?_⟩
    unfold sVal
    rw [e55_23, Int.add_zero]
    simp (disch := first | assumption | exact zrm0 | exact zrm1 _ | exact zrm2 _ _ | exact zrm3 _ _ _ | exact zrm4 _ _ _ _ | omega) only [m55, ↓k_dp, ↓k_dn, k_dp, k_dn, k_dT, k_dF, k_ip, k_in, if_true, if_false, ne_eq, not_true_eq_false, not_false_eq_true, Int.reduceAdd, zup_a, zup_e, zup_j, z32_id, k_al0, k_gR, k_v2, k_ic, k_pI, k_is2, k_is3, k_il3, k_il1, k_icge, k_ild, k_ildS, k_ildW, k_v3r, k_ifeq, k_v3, k_inc2, k_inc3, k_goto, k_il2, k_ri, zb0_some, zb1_some, e55_0, e55_1, e55_4, e55_5, e55_8, e55_11, e55_12, e55_15, e55_16, e55_19, e55_20, e55_21, e55_22, e55_24, e55_25, e55_28, e55_29, e55_32, e55_33, e55_36, e55_37, e55_40, e55_41, e55_42, e55_45, e55_48, e55_49, e55_52, e55_53, e55_56, e55_57, e55_60, e55_61, e55_62, e55_65, e55_68, e55_71, e55_74, e55_75]
  | q :: r, i, c, T, hz, i0, hi, c0, c1, hr, hq => by
    rw [List.length_cons] at hi
    have hGG : zvG (zput N 68 T) 30 = zvG N 30 := zvG_puto (by omega)
    have hG2 : okG (zvG (zput N 68 T) 30) := by rw [hGG]; exact hG
    have h80 : N 80 i = q := by
      have := hr 0 (by omega) (by rw [List.length_cons]; omega)
      rwa [Int.add_zero] at this
    obtain ⟨q0, q1⟩ := hq q (List.mem_cons_self ..)
    have h7 : 0 ≤ zvG N 30 0 7 ∧ zvG N 30 0 7 ≤ 10 := hG.2.1
    have hr' : ∀ t : Int, 0 ≤ t → t < r.length → N 80 (i + 1 + t) = r.getD t.toNat 0 := fun t t0 t1 => by
      have := hr (t + 1) (by omega) (by rw [List.length_cons]; omega)
      rw [show i + (t + 1) = i + 1 + t by omega, show (t + 1).toNat = t.toNat + 1 by omega] at this
      exact this
    have hq' : ∀ z, z ∈ r → 0 ≤ z ∧ z < 5 := fun z hz => hq z (List.mem_cons_of_mem _ hz)
    by_cases w : sWould T (zvG N 30) q = true
    · obtain ⟨T', a1⟩ := c_carr0 d x0 n y N hG n1 r (i + 1) (c + 1) (tGrant T (zvG N 30) q) (zt_grant hz h7) (by omega) (by omega) (by omega) (by omega) hr' hq'
      refine ⟨T', ?_⟩
      unfold sVal
      rw [if_pos w, ← Int.add_assoc, e55_23]
      simp (disch := first | assumption | exact zrm0 | exact zrm1 _ | exact zrm2 _ _ | exact zrm3 _ _ _ | exact zrm4 _ _ _ _ | omega) only [m55, ↓k_dp, ↓k_dn, k_dp, k_dn, k_dT, k_dF, k_ip, k_in, if_true, if_false, ne_eq, not_true_eq_false, not_false_eq_true, Int.reduceAdd, zup_a, zup_e, zup_j, z32_id, k_al0, k_gR, k_v2, k_ic, k_pI, k_is2, k_is3, k_il3, k_il1, k_icge, k_ild, k_ildS, k_ildW, k_v3r, k_ifeq, k_v3, k_inc2, k_inc3, k_goto, k_il2, k_ri, zb0_some, zb1_some, e55_0, e55_1, e55_4, e55_5, e55_8, e55_11, e55_12, e55_15, e55_16, e55_19, e55_20, e55_21, e55_22, e55_24, e55_25, e55_28, e55_29, e55_32, e55_33, e55_36, e55_37, e55_40, e55_41, e55_42, e55_45, e55_48, e55_49, e55_52, e55_53, e55_56, e55_57, e55_60, e55_61, e55_62, e55_65, e55_68, e55_71, e55_74, e55_75, zput_o, h80, s_wouldCarry, s_grantIrons, zvS_put, hz, hGG, w, zput_put]
      exact a1
    · obtain ⟨T', a1⟩ := c_carr0 d x0 n y N hG n1 r (i + 1) c T hz (by omega) (by omega) c0 (by omega) hr' hq'
      refine ⟨T', ?_⟩
      unfold sVal
      rw [if_neg w, e55_23]
      simp (disch := first | assumption | exact zrm0 | exact zrm1 _ | exact zrm2 _ _ | exact zrm3 _ _ _ | exact zrm4 _ _ _ _ | omega) only [m55, ↓k_dp, ↓k_dn, k_dp, k_dn, k_dT, k_dF, k_ip, k_in, if_true, if_false, ne_eq, not_true_eq_false, not_false_eq_true, Int.reduceAdd, zup_a, zup_e, zup_j, z32_id, k_al0, k_gR, k_v2, k_ic, k_pI, k_is2, k_is3, k_il3, k_il1, k_icge, k_ild, k_ildS, k_ildW, k_v3r, k_ifeq, k_v3, k_inc2, k_inc3, k_goto, k_il2, k_ri, zb0_some, zb1_some, e55_0, e55_1, e55_4, e55_5, e55_8, e55_11, e55_12, e55_15, e55_16, e55_19, e55_20, e55_21, e55_22, e55_24, e55_25, e55_28, e55_29, e55_32, e55_33, e55_36, e55_37, e55_40, e55_41, e55_42, e55_45, e55_48, e55_49, e55_52, e55_53, e55_56, e55_57, e55_60, e55_61, e55_62, e55_65, e55_68, e55_71, e55_74, e55_75, zput_o, h80, s_wouldCarry, zvS_put, hz, hGG, w, Bool.false_eq_true]
      exact a1
theorem c_carried (d : Nat) (x0 n y : Int) (M : zM) (hG : okG (zvG M 30)) (p : List Int) (hn : n = p.length) (n1 : n ≤ 5) (hp : zIs (M 80) p) (hq : ∀ q, q ∈ p → 0 ≤ q ∧ q < 5) : ∃ N', zEm true (d + 6) 55 [(29, 0, x0), (0, n, y)] M = some ((0, sVal (zvG M 30) (zup (zvS M 37) 0 9 0) p, 0), N') ∧ ∀ x y, ¬ (68 ≤ x ∧ x ≤ 76) → N' x y = M x y := by
  have eG : zvG (cpS M 68 37) 30 = zvG M 30 := zvG_cpo (by omega)
  have eS : zvS (cpS M 68 37) 68 = zvS M 37 := zvS_cp (by omega) (by omega)
  have hz : zt (zup (zvS M 37) 0 9 0) = zup (zvS M 37) 0 9 0 := zt_up (by unfold sdom; omega) zt_v
  have e80 : ∀ t, cpS M 68 37 80 t = M 80 t := fun t => cpS_o (by omega)
  obtain ⟨T', a1⟩ := c_carr0 d x0 n y (cpS M 68 37) (by rw [eG]; exact hG) n1 p 0 0 (zup (zvS M 37) 0 9 0) hz (Int.le_refl _) (by omega) (Int.le_refl _) (Int.le_refl _) (fun t t0 t1 => by rw [e80, Int.zero_add]; exact hp t t0 t1) hq
  rw [eG, Int.zero_add] at a1
  refine ⟨zput (cpS M 68 37) 68 T', ?_, fun x y h => by rw [zput_o (by omega), cpS_o (by omega)]⟩
  rw [← eS, ← zup_put0 (by omega) (by omega) (by omega), eS] at a1
  simp (disch := first | assumption | exact zrm0 | exact zrm1 _ | exact zrm2 _ _ | exact zrm3 _ _ _ | exact zrm4 _ _ _ _ | omega) only [m55, ↓k_dp, ↓k_dn, k_dp, k_dn, k_dT, k_dF, k_ip, k_in, if_true, if_false, ne_eq, not_true_eq_false, not_false_eq_true, Int.reduceAdd, zup_a, zup_e, zup_j, z32_id, k_al0, k_gR, k_v2, k_ic, k_pI, k_is2, k_is3, k_il3, k_il1, k_icge, k_ild, k_ildS, k_ildW, k_v3r, k_ifeq, k_v3, k_inc2, k_inc3, k_goto, k_il2, k_ri, zb0_some, zb1_some, e55_0, e55_1, e55_4, e55_5, e55_8, e55_11, e55_12, e55_15, e55_16, e55_19, e55_20, e55_21, e55_22, e55_24, e55_25, e55_28, e55_29, e55_32, e55_33, e55_36, e55_37, e55_40, e55_41, e55_42, e55_45, e55_48, e55_49, e55_52, e55_53, e55_56, e55_57, e55_60, e55_61, e55_62, e55_65, e55_68, e55_71, e55_74, e55_75, s_copyS]
  exact a1
def okBc (N : zM) (n : Int) (b : Int × List Int) : Prop := -1 ≤ b.1 ∧ (0 ≤ b.1 → (b.2.length : Int) = n ∧ zIs (N 53) b.2)
theorem bestL_cons {G S : zM} {c : Int} {P p : List Int} {b : Int × List Int} {ps : List (List Int)} : bestL G S c P b (p :: ps) = bestL G S c P (updB b (c + sVal G S p) (P ++ p)) ps := rfl
/-- one order weighed -/
theorem c_weigh (d : Nat) (x0 n k : Int) (M N : zM) (hG : okG (zvG M 30)) (n0 : 0 ≤ n) (n1 : n ≤ 5) (b : Int × List Int) (l4 : zV) (p : List Int) (hn : n = p.length) (hq : ∀ q, q ∈ p → 0 ≤ q ∧ q < 5) (k0 : 0 ≤ k) (k1 : k < 120) (hp : zIs (N 80) p) (hb : okBc N n b) (hN : ∀ x y, ¬ (x = 80 ∨ x = 53 ∨ (68 ≤ x ∧ x ≤ 76)) → N x y = M x y) : ∃ N' v, zEv true (d + 8) 29 9 [(29, 0, x0), (0, n, 0), (0, b.1, 0), (0, k, 0), l4] [] N = zEv true (d + 8) 29 48 [(29, 0, x0), (0, n, 0), (0, (updB b (sVal (zvG M 30) (zup (zvS M 37) 0 9 0) p) p).1, 0), (0, k, 0), (0, v, 0)] [] N' ∧ okBc N' n (updB b (sVal (zvG M 30) (zup (zvS M 37) 0 9 0) p) p) ∧ zIs (N' 80) p ∧ ∀ x y, ¬ (x = 80 ∨ x = 53 ∨ (68 ≤ x ∧ x ≤ 76)) → N' x y = M x y := by
  have eG : zvG N 30 = zvG M 30 := zvG_eq (fun x y h1 h2 => hN x y (by omega))
  have eS : zvS N 37 = zvS M 37 := zvS_eq (fun x y h1 h2 => hN x y (by omega))
  obtain ⟨A, a1, a2⟩ := c_carried (d + 2) x0 n 0 N (by rw [eG]; exact hG) p hn n1 hp hq
  rw [eG, eS] at a1
  have hv := sVal_bd (G := zvG M 30) p (zup (zvS M 37) 0 9 0)
  generalize sVal (zvG M 30) (zup (zvS M 37) 0 9 0) p = v at a1 hv ⊢
  have hA : ∀ x y, ¬ (x = 80 ∨ x = 53 ∨ (68 ≤ x ∧ x ≤ 76)) → A x y = M x y := fun x y h => by rw [a2 x y (by omega)]; exact hN x y h
  have hA80 : A 80 = N 80 := by funext t; exact a2 80 t (by omega)
  have hA53 : A 53 = N 53 := by funext t; exact a2 53 t (by omega)
  unfold updB
  by_cases c : b.1 < v
  · refine ⟨zcpy A 80 0 53 0 n, v, ?_, ?_, ?_, fun x y h => by rw [zcpy_o (by omega)]; exact hA x y h⟩
    · rw [if_pos c, e29_9]
      generalize b.1 = bb at *
      simp (disch := first | assumption | exact zrm0 | exact zrm1 _ | exact zrm2 _ _ | exact zrm3 _ _ _ | exact zrm4 _ _ _ _ | omega) only [m29, ↓k_dp, ↓k_dn, k_dp, k_dn, k_dT, k_dF, k_ip, k_in, if_true, if_false, ne_eq, not_true_eq_false, not_false_eq_true, Int.reduceAdd, zup_a, zup_e, zup_j, z32_id, k_al0, k_v1r, k_is1, k_ic, k_is2, k_is3, k_il3, k_icge, k_il1, k_v2r, k_is4, k_il4, k_il2, k_icle, k_gR, k_cpy, k_cpyS, k_ifne, k_goto, k_inc3, k_pI, k_ri, zb0_some, zb1_some, e29_0, e29_1, e29_4, e29_5, e29_6, e29_7, e29_8, e29_10, e29_12, e29_15, e29_16, e29_17, e29_20, e29_22, e29_24, e29_25, e29_28, e29_30, e29_31, e29_32, e29_35, e29_36, e29_37, e29_40, e29_43, e29_44, e29_45, e29_49, e29_50, e29_53, e29_56, e29_59, e29_62, e29_65, e29_66, e29_69, e29_70, e29_73, e29_74, a1]
    · rw [if_pos c]
      refine ⟨by show -1 ≤ v; omega, fun _ => ⟨hn.symm, fun i i0 i1 => ?_⟩⟩
      have i1 : i < (p.length : Int) := i1
      rw [zcpy_i (by omega) (by omega) (by omega), Int.zero_add, Int.sub_zero, hA80]
      exact hp i i0 i1
    · intro i i0 i1
      rw [zcpy_o (by omega), hA80]
      exact hp i i0 i1
  · refine ⟨A, v, ?_, ?_, by rw [hA80]; exact hp, hA⟩
    · rw [if_neg c, e29_9]
      generalize b.1 = bb at *
      simp (disch := first | assumption | exact zrm0 | exact zrm1 _ | exact zrm2 _ _ | exact zrm3 _ _ _ | exact zrm4 _ _ _ _ | omega) only [m29, ↓k_dp, ↓k_dn, k_dp, k_dn, k_dT, k_dF, k_ip, k_in, if_true, if_false, ne_eq, not_true_eq_false, not_false_eq_true, Int.reduceAdd, zup_a, zup_e, zup_j, z32_id, k_al0, k_v1r, k_is1, k_ic, k_is2, k_is3, k_il3, k_icge, k_il1, k_v2r, k_is4, k_il4, k_il2, k_icle, k_gR, k_cpy, k_cpyS, k_ifne, k_goto, k_inc3, k_pI, k_ri, zb0_some, zb1_some, e29_0, e29_1, e29_4, e29_5, e29_6, e29_7, e29_8, e29_10, e29_12, e29_15, e29_16, e29_17, e29_20, e29_22, e29_24, e29_25, e29_28, e29_30, e29_31, e29_32, e29_35, e29_36, e29_37, e29_40, e29_43, e29_44, e29_45, e29_49, e29_50, e29_53, e29_56, e29_59, e29_62, e29_65, e29_66, e29_69, e29_70, e29_73, e29_74, a1]
    · rw [if_neg c]
      refine ⟨hb.1, fun h => ?_⟩
      rw [hA53]
      exact hb.2 h
theorem c_agenda0 (d : Nat) (x0 n : Int) (M : zM) (hG : okG (zvG M 30)) (n0 : 0 ≤ n) (n1 : n ≤ 5) : ∀ (ps : List (List Int)) (p : List Int) (b : Int × List Int) (k : Int) (l4 : zV) (N : zM), chainL n.toNat (p :: ps) = true → 0 ≤ k → k + (p :: ps).length ≤ 120 → zIs (N 80) p → okBc N n b → (∀ x y, ¬ (x = 80 ∨ x = 53 ∨ (68 ≤ x ∧ x ≤ 76)) → N x y = M x y) → ∃ N', zEv true (d + 8) 29 9 [(29, 0, x0), (0, n, 0), (0, b.1, 0), (0, k, 0), l4] [] N = some ((0, (bestL (zvG M 30) (zup (zvS M 37) 0 9 0) 0 [] b (p :: ps)).1, 0), N') ∧ okBc N' n (bestL (zvG M 30) (zup (zvS M 37) 0 9 0) 0 [] b (p :: ps)) ∧ N' 51 6 = n ∧ ∀ x y, ¬ (x = 80 ∨ x = 53 ∨ (68 ≤ x ∧ x ≤ 76) ∨ (x = 51 ∧ y = 6)) → N' x y = M x y
  | [], p, b, k, l4, N, hc, k0, k1, hp, hb, hN => by
    simp only [chainL, Bool.and_eq_true, decide_eq_true_eq, List.all_eq_true] at hc
    obtain ⟨⟨c1, c2⟩, c3⟩ := hc
    have hn : n = p.length := by omega
    simp only [List.length_cons, List.length_nil] at k1
    obtain ⟨A, v, a1, a2, a3, a4⟩ := c_weigh d x0 n k M N hG n0 n1 b l4 p hn c3 k0 (by omega) hp hb hN
    have hx := (c_toNext (d + 6) x0 n 0 A n0 n1).1 (by rw [hn]; exact (nxtR_L a3).1 c2)
    rw [bestL_cons, Int.zero_add, List.nil_append]
    show ∃ N', _ = some ((0, (updB b _ p).1, 0), N') ∧ okBc N' n (updB b _ p) ∧ _
    generalize updB b (sVal (zvG M 30) (zup (zvS M 37) 0 9 0) p) p = b' at a1 a2 ⊢
    refine ⟨zup A 51 6 n, ?_, ⟨a2.1, fun h => ?_⟩, zup_e (by omega), fun x y h => ?_⟩
    · rw [a1, e29_48]
      generalize b'.1 = bb
      simp (disch := first | assumption | exact zrm0 | exact zrm1 _ | exact zrm2 _ _ | exact zrm3 _ _ _ | exact zrm4 _ _ _ _ | omega) only [m29, ↓k_dp, ↓k_dn, k_dp, k_dn, k_dT, k_dF, k_ip, k_in, if_true, if_false, ne_eq, not_true_eq_false, not_false_eq_true, Int.reduceAdd, zup_a, zup_e, zup_j, z32_id, k_al0, k_v1r, k_is1, k_ic, k_is2, k_is3, k_il3, k_icge, k_il1, k_v2r, k_is4, k_il4, k_il2, k_icle, k_gR, k_cpy, k_cpyS, k_ifne, k_goto, k_inc3, k_pI, k_ri, zb0_some, zb1_some, e29_0, e29_1, e29_4, e29_5, e29_6, e29_7, e29_8, e29_10, e29_12, e29_15, e29_16, e29_17, e29_20, e29_22, e29_24, e29_25, e29_28, e29_30, e29_31, e29_32, e29_35, e29_36, e29_37, e29_40, e29_43, e29_44, e29_45, e29_49, e29_50, e29_53, e29_56, e29_59, e29_62, e29_65, e29_66, e29_69, e29_70, e29_73, e29_74, hx]
    · obtain ⟨h1, h2⟩ := a2.2 h
      refine ⟨h1, fun i i0 i1 => ?_⟩
      rw [zup_a (by omega)]
      exact h2 i i0 i1
    · have : zup A 51 6 n x y = A x y := by unfold zup; rw [if_neg (by omega)]
      rw [this]
      exact a4 x y (by omega)
  | p' :: ps, p, b, k, l4, N, hc, k0, k1, hp, hb, hN => by
    simp only [chainL, Bool.and_eq_true, decide_eq_true_eq, List.all_eq_true] at hc
    obtain ⟨⟨⟨c1, c2⟩, c3⟩, c4⟩ := hc
    have hn : n = p.length := by omega
    simp only [List.length_cons] at k1
    obtain ⟨A, v, a1, a2, a3, a4⟩ := c_weigh d x0 n k M N hG n0 n1 b l4 p hn c3 k0 (by omega) hp hb hN
    obtain ⟨hl, R', r1, r2⟩ := (nxtR_L a3).2 p' c2
    obtain ⟨B, b1, b2, b3⟩ := (c_toNext (d + 6) x0 n 0 A n0 n1).2 R' (by rw [hn]; exact r1)
    rw [bestL_cons, Int.zero_add, List.nil_append]
    obtain ⟨N', f1, f2, f3, f4⟩ := c_agenda0 d x0 n M hG n0 n1 ps p' (updB b (sVal (zvG M 30) (zup (zvS M 37) 0 9 0) p) p) (k + 1) (0, v, 0) B c4 (by omega) (by simp only [List.length_cons]; omega) (by rw [b3]; exact r2) ⟨a2.1, fun h => by
      have e53 : B 53 = A 53 := by funext t; exact b2 53 t (by omega)
      rw [e53]
      exact a2.2 h⟩ (fun x y h => by rw [b2 x y (by omega)]; exact a4 x y h)
    refine ⟨N', ?_, f2, f3, f4⟩
    rw [← f1, a1, e29_48]
    generalize (updB b (sVal (zvG M 30) (zup (zvS M 37) 0 9 0) p) p).1 = bb
    simp (disch := first | assumption | exact zrm0 | exact zrm1 _ | exact zrm2 _ _ | exact zrm3 _ _ _ | exact zrm4 _ _ _ _ | omega) only [m29, ↓k_dp, ↓k_dn, k_dp, k_dn, k_dT, k_dF, k_ip, k_in, if_true, if_false, ne_eq, not_true_eq_false, not_false_eq_true, Int.reduceAdd, zup_a, zup_e, zup_j, z32_id, k_al0, k_v1r, k_is1, k_ic, k_is2, k_is3, k_il3, k_icge, k_il1, k_v2r, k_is4, k_il4, k_il2, k_icle, k_gR, k_cpy, k_cpyS, k_ifne, k_goto, k_inc3, k_pI, k_ri, zb0_some, zb1_some, e29_0, e29_1, e29_4, e29_5, e29_6, e29_7, e29_8, e29_10, e29_12, e29_15, e29_16, e29_17, e29_20, e29_22, e29_24, e29_25, e29_28, e29_30, e29_31, e29_32, e29_35, e29_36, e29_37, e29_40, e29_43, e29_44, e29_45, e29_49, e29_50, e29_53, e29_56, e29_59, e29_62, e29_65, e29_66, e29_69, e29_70, e29_73, e29_74, b1]
theorem c_agenda (d : Nat) (x0 : Int) (M : zM) (hG : okG (zvG M 30)) : ∃ N' m b, m = sThose (zvS M 37) (zvG M 30) 0 ∧ (0 ≤ m ∧ m < 32) ∧ b = bestL (zvG M 30) (zup (zvS M 37) 0 9 0) 0 [] (-1, []) (permsM (pM m).toNat m) ∧ zEm true (d + 9) 29 [(29, 0, x0)] M = some ((0, b.1, 0), N') ∧ okBc N' (pM m) b ∧ N' 51 6 = pM m ∧ ∀ x y, ¬ (x = 80 ∨ x = 53 ∨ (68 ≤ x ∧ x ≤ 76) ∨ (x = 51 ∧ y = 6)) → N' x y = M x y := by
  obtain ⟨-, -, ⟨g0, g1⟩, -⟩ := okG_M hG
  obtain ⟨A, m, a1, a2, a3, a4, a5⟩ := c_list (d + 7) x0 M g0 g1
  have hk := chkM_t a2.1 a2.2
  unfold chkM at hk
  simp only [Bool.and_eq_true, Bool.or_eq_true, decide_eq_true_eq] at hk
  obtain ⟨⟨⟨⟨⟨⟨⟨⟨k1, k2⟩, k3⟩, k4⟩, k5⟩, k6⟩, k7⟩, k8⟩, k9⟩ := hk
  obtain ⟨p, ps, hps⟩ : ∃ p ps, permsM (pM m).toNat m = p :: ps := by
    cases h : permsM (pM m).toNat m with
    | nil => rw [h] at k3; cases k3
    | cons p ps => exact ⟨p, ps, rfl⟩
  rw [hps] at k1 k2 k3
  have hp : p = lM m := Option.some.inj k3
  obtain ⟨N', f1, f2, f3, f4⟩ := c_agenda0 d x0 (pM m) M hG k4 k5 ps p (-1, []) 0 (3, 0, 0) A k1 (Int.le_refl _) (by omega) (by rw [hp]; exact a5) ⟨Int.le_refl _, fun h => by exact absurd h (by decide)⟩ (fun x y h => a4 x y (by omega))
  rw [← hps] at f1 f2
  refine ⟨N', m, _, a1, a2, rfl, ?_, f2, f3, f4⟩
  simp (disch := first | assumption | exact zrm0 | exact zrm1 _ | exact zrm2 _ _ | exact zrm3 _ _ _ | exact zrm4 _ _ _ _ | omega) only [m29, ↓k_dp, ↓k_dn, k_dp, k_dn, k_dT, k_dF, k_ip, k_in, if_true, if_false, ne_eq, not_true_eq_false, not_false_eq_true, Int.reduceAdd, zup_a, zup_e, zup_j, z32_id, k_al0, k_v1r, k_is1, k_ic, k_is2, k_is3, k_il3, k_icge, k_il1, k_v2r, k_is4, k_il4, k_il2, k_icle, k_gR, k_cpy, k_cpyS, k_ifne, k_goto, k_inc3, k_pI, k_ri, zb0_some, zb1_some, e29_0, e29_1, e29_4, e29_5, e29_6, e29_7, e29_8, e29_10, e29_12, e29_15, e29_16, e29_17, e29_20, e29_22, e29_24, e29_25, e29_28, e29_30, e29_31, e29_32, e29_35, e29_36, e29_37, e29_40, e29_43, e29_44, e29_45, e29_48, e29_49, e29_50, e29_53, e29_56, e29_59, e29_62, e29_65, e29_66, e29_69, e29_70, e29_73, e29_74, a3]
  exact f1
