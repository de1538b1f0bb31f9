/-! the lines of a valley's text: street, question, price, wage -/
def lnC (A A' B' : zM) (r : Int) : Prop := (r = 1 ∧ tkR A' B' ∧ vlP A' B' ∧ A 2 4 < A' 2 4) ∨ (r = 0 ∧ flR A' B')
theorem vl_street {A B A' B' : zM} (v : vlP A B) (c : A 4 6 < 5) (a : ∀ x y, (x = 1 ∧ y = 5) ∨ (4 ≤ x ∧ x ≤ 19) → ¬ (x = 5 ∧ y = A 4 6) → ¬ (x = 4 ∧ y = 6) → A' x y = A x y) (b : ∀ x y, x = 200 ∨ x = 205 ∨ x = 208 → ¬ (x = 205 ∧ y = A 4 6) → ¬ (x = 200 ∧ y = 0) → B' x y = B x y) (a1 : A' 4 6 = A 4 6 + 1) (b1 : B' 200 0 = A 4 6 + 1) (hn : nmR (A' 5 (A 4 6)) (B' 205 (A 4 6))) : vlP A' B' := by
  have k0 := v.k0
  have k1 := v.k1
  have k2 := v.k2
  refine ⟨?_, ?_, ?_, ?_, ?_, ?_, ?_, ?_, ?_, ?_, ?_, ?_, ?_, ?_, ?_, ?_, ?_, ?_, ?_⟩
  · omega
  · rw [a 4 7 (by omega) (by omega) (by omega), b 200 1 (by omega) (by omega) (by omega)]; exact k1
  · rw [a 4 8 (by omega) (by omega) (by omega), b 200 2 (by omega) (by omega) (by omega)]; exact k2
  · rw [a 4 10 (by omega) (by omega) (by omega), b 200 3 (by omega) (by omega) (by omega)]; exact v.pr
  · rw [a 4 11 (by omega) (by omega) (by omega), b 200 4 (by omega) (by omega) (by omega)]; exact v.wg
  · rw [a 4 9 (by omega) (by omega) (by omega), b 200 39 (by omega) (by omega) (by omega)]; exact v.ch
  · intro k p0 p1
    by_cases ck : k = A 4 6
    · rw [ck, Int.zero_add]; exact hn
    · rw [a 5 k (by omega) (by omega) (by omega), b 205 _ (by omega) (by omega) (by omega)]
      exact v.n1 k p0 (by omega)
  · intro k p0 p1
    rw [a 4 7 (by omega) (by omega) (by omega)] at p1
    rw [a 6 k (by omega) (by omega) (by omega), b 205 _ (by omega) (by omega) (by omega)]
    exact v.n2 k p0 p1
  · intro k p0 p1
    rw [a 4 8 (by omega) (by omega) (by omega)] at p1
    rw [a 7 k (by omega) (by omega) (by omega), b 205 _ (by omega) (by omega) (by omega)]
    exact v.n3 k p0 p1
  · intro k p0 p1
    rw [a 4 7 (by omega) (by omega) (by omega)] at p1
    have := v.hm k p0 p1
    rw [a 8 k (by omega) (by omega) (by omega), b 200 (9 + k) (by omega) (by omega) (by omega)]
    omega
  · intro k p0 p1
    rw [a 12 k (by omega) (by omega) (by omega), b 200 (19 + k) (by omega) (by omega) (by omega), a 4 7 (by omega) (by omega) (by omega)]
    exact v.ir k p0 p1
  · intro k p0 p1
    rw [a 13 k (by omega) (by omega) (by omega), b 200 (29 + k) (by omega) (by omega) (by omega), a 4 7 (by omega) (by omega) (by omega)]
    exact v.co k p0 p1
  · intro k p0 p1
    rw [a 14 k (by omega) (by omega) (by omega), b 200 (40 + k) (by omega) (by omega) (by omega)]
    exact v.lf k p0 p1
  · intro k p0 p1
    rw [a 15 k (by omega) (by omega) (by omega), b 200 (45 + k) (by omega) (by omega) (by omega)]
    exact v.rt k p0 p1
  · intro k p0 p1
    rw [a 9 k (by omega) (by omega) (by omega), b 200 (50 + k) (by omega) (by omega) (by omega)]
    exact v.gr k p0 p1
  · intro k p0 p1
    rw [a 10 k (by omega) (by omega) (by omega), b 200 (7 + k) (by omega) (by omega) (by omega)]
    exact v.ec k p0 p1
  · intro k p0 p1
    rw [a 19 k (by omega) (by omega) (by omega), b 200 (5 + k) (by omega) (by omega) (by omega)]
    exact v.sd k p0 p1
  · rw [a 1 5 (by omega) (by omega) (by omega)]
    refine ⟨v.on.1, fun k p0 p1 => ?_⟩
    rw [b 208 k (by omega) (by omega) (by omega)]
    exact v.on.2 k p0 p1
  · rw [a 11 8 (by omega) (by omega) (by omega), a 11 9 (by omega) (by omega) (by omega), a 11 10 (by omega) (by omega) (by omega)]
    refine ⟨v.st.1, fun k p0 p1 => ?_⟩
    rw [a 16 k (by omega) (by omega) (by omega), a 17 k (by omega) (by omega) (by omega), a 18 k (by omega) (by omega) (by omega)]
    exact v.st.2 k p0 p1
theorem vl_question {A B A' B' : zM} (v : vlP A B) (c : A 4 8 < 5) (a : ∀ x y, (x = 1 ∧ y = 5) ∨ (4 ≤ x ∧ x ≤ 19) → ¬ (x = 7 ∧ y = A 4 8) → ¬ (x = 4 ∧ y = 8) → A' x y = A x y) (b : ∀ x y, x = 200 ∨ x = 205 ∨ x = 208 → ¬ (x = 205 ∧ y = 15 + A 4 8) → ¬ (x = 200 ∧ y = 2) → B' x y = B x y) (a1 : A' 4 8 = A 4 8 + 1) (b1 : B' 200 2 = A 4 8 + 1) (hn : nmR (A' 7 (A 4 8)) (B' 205 (15 + A 4 8))) : vlP A' B' := by
  have k0 := v.k0
  have k1 := v.k1
  have k2 := v.k2
  refine ⟨?_, ?_, ?_, ?_, ?_, ?_, ?_, ?_, ?_, ?_, ?_, ?_, ?_, ?_, ?_, ?_, ?_, ?_, ?_⟩
  · rw [a 4 6 (by omega) (by omega) (by omega), b 200 0 (by omega) (by omega) (by omega)]; exact k0
  · rw [a 4 7 (by omega) (by omega) (by omega), b 200 1 (by omega) (by omega) (by omega)]; exact k1
  · omega
  · rw [a 4 10 (by omega) (by omega) (by omega), b 200 3 (by omega) (by omega) (by omega)]; exact v.pr
  · rw [a 4 11 (by omega) (by omega) (by omega), b 200 4 (by omega) (by omega) (by omega)]; exact v.wg
  · rw [a 4 9 (by omega) (by omega) (by omega), b 200 39 (by omega) (by omega) (by omega)]; exact v.ch
  · intro k p0 p1
    rw [a 4 6 (by omega) (by omega) (by omega)] at p1
    rw [a 5 k (by omega) (by omega) (by omega), b 205 _ (by omega) (by omega) (by omega)]
    exact v.n1 k p0 p1
  · intro k p0 p1
    rw [a 4 7 (by omega) (by omega) (by omega)] at p1
    rw [a 6 k (by omega) (by omega) (by omega), b 205 _ (by omega) (by omega) (by omega)]
    exact v.n2 k p0 p1
  · intro k p0 p1
    by_cases ck : k = A 4 8
    · rw [ck]; exact hn
    · rw [a 7 k (by omega) (by omega) (by omega), b 205 _ (by omega) (by omega) (by omega)]
      exact v.n3 k p0 (by omega)
  · intro k p0 p1
    rw [a 4 7 (by omega) (by omega) (by omega)] at p1
    rw [a 8 k (by omega) (by omega) (by omega), a 4 6 (by omega) (by omega) (by omega), b 200 (9 + k) (by omega) (by omega) (by omega)]
    exact v.hm k p0 p1
  · intro k p0 p1
    rw [a 12 k (by omega) (by omega) (by omega), b 200 (19 + k) (by omega) (by omega) (by omega), a 4 7 (by omega) (by omega) (by omega)]
    exact v.ir k p0 p1
  · intro k p0 p1
    rw [a 13 k (by omega) (by omega) (by omega), b 200 (29 + k) (by omega) (by omega) (by omega), a 4 7 (by omega) (by omega) (by omega)]
    exact v.co k p0 p1
  · intro k p0 p1
    rw [a 14 k (by omega) (by omega) (by omega), b 200 (40 + k) (by omega) (by omega) (by omega)]
    exact v.lf k p0 p1
  · intro k p0 p1
    rw [a 15 k (by omega) (by omega) (by omega), b 200 (45 + k) (by omega) (by omega) (by omega)]
    exact v.rt k p0 p1
  · intro k p0 p1
    rw [a 9 k (by omega) (by omega) (by omega), b 200 (50 + k) (by omega) (by omega) (by omega)]
    exact v.gr k p0 p1
  · intro k p0 p1
    rw [a 10 k (by omega) (by omega) (by omega), b 200 (7 + k) (by omega) (by omega) (by omega)]
    exact v.ec k p0 p1
  · intro k p0 p1
    rw [a 19 k (by omega) (by omega) (by omega), b 200 (5 + k) (by omega) (by omega) (by omega)]
    exact v.sd k p0 p1
  · rw [a 1 5 (by omega) (by omega) (by omega)]
    refine ⟨v.on.1, fun k p0 p1 => ?_⟩
    rw [b 208 k (by omega) (by omega) (by omega)]
    exact v.on.2 k p0 p1
  · rw [a 11 8 (by omega) (by omega) (by omega), a 11 9 (by omega) (by omega) (by omega), a 11 10 (by omega) (by omega) (by omega)]
    refine ⟨v.st.1, fun k p0 p1 => ?_⟩
    rw [a 16 k (by omega) (by omega) (by omega), a 17 k (by omega) (by omega) (by omega), a 18 k (by omega) (by omega) (by omega)]
    exact v.st.2 k p0 p1
theorem tk_pg {A B : zM} (h : tkR A B) (c : A 2 5 ≠ 0) : A 2 4 < A 2 3 ∧ A 2 4 < A 2 2 := h.2.pg c
theorem tk_w2 {A B : zM} (h : tkR A B) {k : Int} (k0 : 0 ≤ k) (k1 : k < 32) (c : A 2 7 = wk k) : B 197 7 = 2 ∧ A 2 5 = 2 := by
  have h1 := (h.2.wd k k0 k1).1 c
  have h2 := h.2.w1
  have h3 := (zlet_t k0 k1).2.2.2.1
  refine ⟨h1.1, ?_⟩
  by_cases z : A 2 5 = 2
  · exact z
  · have := h2 z
    omega
theorem p_street {A B : zM} (h : tkR A B) (v : vlP A B) (c : A 2 7 = 3) (D E : Nat) (hD : 9 ≤ D) (hE : 8 ≤ E) (x0 y0 : Int) : ∃ A' B' r, zEm true D 82 [(24, 1, x0)] A = some ((0, r, 0), A') ∧ zEm true E 196 [(30, 197, y0)] B = some ((0, r, 0), B') ∧ frV A A' ∧ frW B B' ∧ lnC A A' B' r := by
  obtain ⟨d, rfl⟩ : ∃ d, D = d + 1 := ⟨D - 1, by omega⟩
  obtain ⟨e, rfl⟩ : ∃ e, E = e + 2 := ⟨E - 2, by omega⟩
  obtain ⟨h7, h5⟩ := tk_w2 h (k := 0) (by omega) (by omega) c
  have k0 := v.k0
  by_cases cm : A 4 6 < 5
  · obtain ⟨A1, B1, a1, a2, a3, a4, a5, a6⟩ := p_go h.1 d e (by omega) (by omega) 0 y0
    have v1 : vlP A1 B1 := vl_ag v (agX_a a4) (agY_g a5)
    have f1 := v1.k0
    have q46 : A1 4 6 = A 4 6 := a4 _ _ (by omega)
    have hp1 := a6 _ (tk_pg h (by omega)).1 (tk_pg h (by omega)).2
    have hfirst : zEm true (e + 1) 192 [(30, 197, y0), (0, 0, 0), (0, 5, 0)] B = some ((0, 1, 0), B1) := by
      have : B 200 0 ≠ 5 := by omega
      simp (disch := first | assumption | exact zrm0 | exact zrm1 _ | exact zrm2 _ _ | exact zrm3 _ _ _ | exact zrm4 _ _ _ _ | omega) only [m192, ↓k_dp, ↓k_dn, k_dp, k_dn, k_dT, k_dF, k_ip, k_in, if_true, if_false, ne_eq, not_true_eq_false, not_false_eq_true, Int.reduceAdd, zup_a, zup_e, zup_j, z32_id, k_al0, k_gR, k_il1, k_ild, k_ildS, k_ildW, k_il2, k_icne, k_ic, k_v2r, k_rz, k_v1, zb0_some, zb1_some, e192_0, e192_1, e192_4, e192_5, e192_6, e192_7, e192_10, e192_11, e192_12, e192_15, e192_16, e192_17, e192_20, e192_21, a2]
    rcases p_new a3 v1 d e (by omega) (by omega) x0 y0 0 (B1 200 0) (by omega) (by omega) with ⟨b1, b2, b3, b4⟩ | ⟨A2, B2, b1, b2, b3, b4, b5⟩
    · obtain ⟨C, hC⟩ : ∃ C, C = zup (zup A1 5 (A1 4 6) (A1 2 8)) 4 6 (A1 4 6 + 1) := ⟨_, rfl⟩
      obtain ⟨Dm, hDm⟩ : ∃ Dm, Dm = zup B1 205 (B1 200 0) (B1 197 12) := ⟨_, rfl⟩
      have hT : tkR C Dm := tkR_fr a3 (fun x y z => by rw [hC, zup_f (by omega), zup_f (by omega)]) (fun x y z => by rw [hDm, zup_f (by omega)])
      obtain ⟨A2, B2, c1, c2, c3, c4, c5, c6⟩ := p_go hT.1 d e (by omega) (by omega) 0 y0
      have hp2 := c6 (A1 2 4) (by rw [hC, zup_f (by omega), zup_f (by omega)]; exact (tk_pg a3 (by omega)).1) (by rw [hC, zup_f (by omega), zup_f (by omega)]; exact (tk_pg a3 (by omega)).2)
      have fA : ∀ x y, ¬ (x = 2 ∧ 3 ≤ y ∧ y ≤ 9) → ¬ (x = 5 ∧ y = A1 4 6) → ¬ (x = 4 ∧ y = 6) → A2 x y = A1 x y := fun x y z1 z2 z3 => by
        rw [c4 x y z1, hC, zup_f (by omega), zup_f (by omega)]
      have fB : ∀ x y, ¬ (x = 197 ∧ ((5 ≤ y ∧ y ≤ 9) ∨ y = 12)) → ¬ (x = 205 ∧ y = (B1 200 0)) → B2 x y = B1 x y := fun x y z1 z2 => by
        rw [c5 x y z1, hDm, zup_f (by omega)]
      have g0 : B2 200 0 = B1 200 0 := fB _ _ (by omega) (by omega)
      rw [hDm] at c2
      have b2' := b2 B2 c2
      refine ⟨A2, zup B2 200 0 (B1 200 0 + 1), 1, ?_, ?_, fun x y z1 z2 z3 => ?_, fun x y z1 z2 z3 z4 => ?_, Or.inl ⟨rfl, ?_, ?_, ?_⟩⟩
      · rw [hC] at c1
        simp (disch := first | assumption | exact zrm0 | exact zrm1 _ | exact zrm2 _ _ | exact zrm3 _ _ _ | exact zrm4 _ _ _ _ | omega) only [m82, ↓k_dp, ↓k_dn, k_dp, k_dn, k_dT, k_dF, k_ip, k_in, if_true, if_false, ne_eq, not_true_eq_false, not_false_eq_true, Int.reduceAdd, zup_a, zup_e, zup_j, z32_id, k_al0, k_gR, k_gI, k_ic, k_iclt, k_v2r, k_rz, k_v1, k_v1r, k_ifne, k_gL, k_lst, k_dup, k_iadd, k_pI, zb0_some, zb1_some, e82_0, e82_1, e82_4, e82_7, e82_8, e82_11, e82_12, e82_15, e82_16, e82_19, e82_20, e82_21, e82_24, e82_27, e82_28, e82_31, e82_34, e82_35, e82_36, e82_37, e82_40, e82_43, e82_44, e82_47, e82_50, e82_51, e82_54, e82_57, e82_58, e82_59, e82_62, e82_63, e82_66, e82_67, e82_68, e82_71, e82_72, e82_75, e82_78, e82_79, a1, b1, c1]
      · simp (disch := first | assumption | exact zrm0 | exact zrm1 _ | exact zrm2 _ _ | exact zrm3 _ _ _ | exact zrm4 _ _ _ _ | omega) only [m196, ↓k_dp, ↓k_dn, k_dp, k_dn, k_dT, k_dF, k_ip, k_in, if_true, if_false, ne_eq, not_true_eq_false, not_false_eq_true, Int.reduceAdd, zup_a, zup_e, zup_j, z32_id, k_al0, k_ic, k_v3r, k_ifeq, k_gR, k_ild, k_ildS, k_ildW, k_v2r, k_ifne, k_rz, k_dup2, k_iadd, k_ist, zb0_some, zb1_some, e196_0, e196_1, e196_2, e196_3, e196_6, e196_9, e196_10, e196_11, e196_14, e196_15, e196_16, e196_19, e196_22, e196_23, e196_24, e196_25, e196_28, e196_29, e196_30, e196_31, e196_32, e196_33, e196_34, e196_35, hfirst, b2', g0]
      · rw [fA x y (by omega) (by omega) (by omega)]
        exact a4 x y (by omega)
      · rw [zup_f (by omega), fB x y (by omega) (by omega)]
        exact a5 x y (by omega)
      · exact tkR_fr c3 (fun _ _ _ => rfl) (fun x y z => zup_f (by omega))
      · refine vl_street v1 (by omega) (fun x y z1 z2 z3 => fA x y (by omega) (by omega) (by omega)) (fun x y z1 z2 z3 => ?_) ?_ ?_ ?_
        · rw [zup_f (by omega)]
          exact fB x y (by omega) (by omega)
        · rw [c4 _ _ (by omega), hC, zup_e (by omega)]
        · rw [zup_e (by omega)]; omega
        · have e1 : A2 5 (A1 4 6) = A1 2 8 := by
            rw [c4 _ _ (by omega), hC, zup_a (by omega), zup_e (by omega)]
          have e2 : zup B2 200 0 (B1 200 0 + 1) 205 (A1 4 6) = B1 197 12 := by
            rw [zup_a (by omega), c5 _ _ (by omega), hDm, f1.1, zup_e (by omega)]
          rw [e1, e2]
          exact b3
      · omega
    · refine ⟨A2, B2, 0, ?_, ?_, fun x y z1 z2 z3 => ?_, fun x y z1 z2 z3 z4 => ?_, Or.inr ⟨rfl, b5⟩⟩
      · simp (disch := first | assumption | exact zrm0 | exact zrm1 _ | exact zrm2 _ _ | exact zrm3 _ _ _ | exact zrm4 _ _ _ _ | omega) only [m82, ↓k_dp, ↓k_dn, k_dp, k_dn, k_dT, k_dF, k_ip, k_in, if_true, if_false, ne_eq, not_true_eq_false, not_false_eq_true, Int.reduceAdd, zup_a, zup_e, zup_j, z32_id, k_al0, k_gR, k_gI, k_ic, k_iclt, k_v2r, k_rz, k_v1, k_v1r, k_ifne, k_gL, k_lst, k_dup, k_iadd, k_pI, zb0_some, zb1_some, e82_0, e82_1, e82_4, e82_7, e82_8, e82_11, e82_12, e82_15, e82_16, e82_19, e82_20, e82_21, e82_24, e82_27, e82_28, e82_31, e82_34, e82_35, e82_36, e82_37, e82_40, e82_43, e82_44, e82_47, e82_50, e82_51, e82_54, e82_57, e82_58, e82_59, e82_62, e82_63, e82_66, e82_67, e82_68, e82_71, e82_72, e82_75, e82_78, e82_79, a1, b1]
      · simp (disch := first | assumption | exact zrm0 | exact zrm1 _ | exact zrm2 _ _ | exact zrm3 _ _ _ | exact zrm4 _ _ _ _ | omega) only [m196, ↓k_dp, ↓k_dn, k_dp, k_dn, k_dT, k_dF, k_ip, k_in, if_true, if_false, ne_eq, not_true_eq_false, not_false_eq_true, Int.reduceAdd, zup_a, zup_e, zup_j, z32_id, k_al0, k_ic, k_v3r, k_ifeq, k_gR, k_ild, k_ildS, k_ildW, k_v2r, k_ifne, k_rz, k_dup2, k_iadd, k_ist, zb0_some, zb1_some, e196_0, e196_1, e196_2, e196_3, e196_6, e196_9, e196_10, e196_11, e196_14, e196_15, e196_16, e196_19, e196_22, e196_23, e196_24, e196_25, e196_28, e196_29, e196_30, e196_31, e196_32, e196_33, e196_34, e196_35, hfirst, b2]
      · rw [b3 x y (by omega)]
        exact a4 x y (by omega)
      · rw [b4 x y (by omega)]
        exact a5 x y (by omega)
  · obtain ⟨Af, Bf, f1, f2, f3, f4, f5⟩ := p_fail h (k := 4) (by omega) (by omega) (fun z => by omega)
    have f1' := f1 d 0 0 (by omega)
    have f2' := f2 e y0 0 (by omega)
    have hfirst : zEm true (e + 1) 192 [(30, 197, y0), (0, 0, 0), (0, 5, 0)] B = some ((0, 0, 0), Bf) := by
      have : B 200 0 = 5 := by omega
      simp (disch := first | assumption | exact zrm0 | exact zrm1 _ | exact zrm2 _ _ | exact zrm3 _ _ _ | exact zrm4 _ _ _ _ | omega) only [m192, ↓k_dp, ↓k_dn, k_dp, k_dn, k_dT, k_dF, k_ip, k_in, if_true, if_false, ne_eq, not_true_eq_false, not_false_eq_true, Int.reduceAdd, zup_a, zup_e, zup_j, z32_id, k_al0, k_gR, k_il1, k_ild, k_ildS, k_ildW, k_il2, k_icne, k_ic, k_v2r, k_rz, k_v1, zb0_some, zb1_some, e192_0, e192_1, e192_4, e192_5, e192_6, e192_7, e192_10, e192_11, e192_12, e192_15, e192_16, e192_17, e192_20, e192_21, f2']
    refine ⟨Af, Bf, 0, ?_, ?_, frV_X frV_r f3, frW_Y frW_r f4, Or.inr ⟨rfl, f5⟩⟩
    · simp (disch := first | assumption | exact zrm0 | exact zrm1 _ | exact zrm2 _ _ | exact zrm3 _ _ _ | exact zrm4 _ _ _ _ | omega) only [m82, ↓k_dp, ↓k_dn, k_dp, k_dn, k_dT, k_dF, k_ip, k_in, if_true, if_false, ne_eq, not_true_eq_false, not_false_eq_true, Int.reduceAdd, zup_a, zup_e, zup_j, z32_id, k_al0, k_gR, k_gI, k_ic, k_iclt, k_v2r, k_rz, k_v1, k_v1r, k_ifne, k_gL, k_lst, k_dup, k_iadd, k_pI, zb0_some, zb1_some, e82_0, e82_1, e82_4, e82_7, e82_8, e82_11, e82_12, e82_15, e82_16, e82_19, e82_20, e82_21, e82_24, e82_27, e82_28, e82_31, e82_34, e82_35, e82_36, e82_37, e82_40, e82_43, e82_44, e82_47, e82_50, e82_51, e82_54, e82_57, e82_58, e82_59, e82_62, e82_63, e82_66, e82_67, e82_68, e82_71, e82_72, e82_75, e82_78, e82_79, f1']
    · simp (disch := first | assumption | exact zrm0 | exact zrm1 _ | exact zrm2 _ _ | exact zrm3 _ _ _ | exact zrm4 _ _ _ _ | omega) only [m196, ↓k_dp, ↓k_dn, k_dp, k_dn, k_dT, k_dF, k_ip, k_in, if_true, if_false, ne_eq, not_true_eq_false, not_false_eq_true, Int.reduceAdd, zup_a, zup_e, zup_j, z32_id, k_al0, k_ic, k_v3r, k_ifeq, k_gR, k_ild, k_ildS, k_ildW, k_v2r, k_ifne, k_rz, k_dup2, k_iadd, k_ist, zb0_some, zb1_some, e196_0, e196_1, e196_2, e196_3, e196_6, e196_9, e196_10, e196_11, e196_14, e196_15, e196_16, e196_19, e196_22, e196_23, e196_24, e196_25, e196_28, e196_29, e196_30, e196_31, e196_32, e196_33, e196_34, e196_35, hfirst]
theorem p_question {A B : zM} (h : tkR A B) (v : vlP A B) (c : A 2 7 = 6) (D E : Nat) (hD : 9 ≤ D) (hE : 8 ≤ E) (x0 y0 : Int) : ∃ A' B' r, zEm true D 83 [(24, 1, x0)] A = some ((0, r, 0), A') ∧ zEm true E 198 [(30, 197, y0)] B = some ((0, r, 0), B') ∧ frV A A' ∧ frW B B' ∧ lnC A A' B' r := by
  obtain ⟨d, rfl⟩ : ∃ d, D = d + 1 := ⟨D - 1, by omega⟩
  obtain ⟨e, rfl⟩ : ∃ e, E = e + 2 := ⟨E - 2, by omega⟩
  obtain ⟨h7, h5⟩ := tk_w2 h (k := 2) (by omega) (by omega) c
  have k0 := v.k2
  by_cases cm : A 4 8 < 5
  · obtain ⟨A1, B1, a1, a2, a3, a4, a5, a6⟩ := p_go h.1 d e (by omega) (by omega) 0 y0
    have v1 : vlP A1 B1 := vl_ag v (agX_a a4) (agY_g a5)
    have f1 := v1.k2
    have q46 : A1 4 8 = A 4 8 := a4 _ _ (by omega)
    have hp1 := a6 _ (tk_pg h (by omega)).1 (tk_pg h (by omega)).2
    have hfirst : zEm true (e + 1) 192 [(30, 197, y0), (0, 2, 0), (0, 5, 0)] B = some ((0, 1, 0), B1) := by
      have : B 200 2 ≠ 5 := by omega
      simp (disch := first | assumption | exact zrm0 | exact zrm1 _ | exact zrm2 _ _ | exact zrm3 _ _ _ | exact zrm4 _ _ _ _ | omega) only [m192, ↓k_dp, ↓k_dn, k_dp, k_dn, k_dT, k_dF, k_ip, k_in, if_true, if_false, ne_eq, not_true_eq_false, not_false_eq_true, Int.reduceAdd, zup_a, zup_e, zup_j, z32_id, k_al0, k_gR, k_il1, k_ild, k_ildS, k_ildW, k_il2, k_icne, k_ic, k_v2r, k_rz, k_v1, zb0_some, zb1_some, e192_0, e192_1, e192_4, e192_5, e192_6, e192_7, e192_10, e192_11, e192_12, e192_15, e192_16, e192_17, e192_20, e192_21, a2]
    rcases p_new a3 v1 d e (by omega) (by omega) x0 y0 0 (15 + B1 200 2) (by omega) (by omega) with ⟨b1, b2, b3, b4⟩ | ⟨A2, B2, b1, b2, b3, b4, b5⟩
    · obtain ⟨C, hC⟩ : ∃ C, C = zup (zup A1 7 (A1 4 8) (A1 2 8)) 4 8 (A1 4 8 + 1) := ⟨_, rfl⟩
      obtain ⟨Dm, hDm⟩ : ∃ Dm, Dm = zup B1 205 (15 + B1 200 2) (B1 197 12) := ⟨_, rfl⟩
      have hT : tkR C Dm := tkR_fr a3 (fun x y z => by rw [hC, zup_f (by omega), zup_f (by omega)]) (fun x y z => by rw [hDm, zup_f (by omega)])
      obtain ⟨A2, B2, c1, c2, c3, c4, c5, c6⟩ := p_go hT.1 d e (by omega) (by omega) 0 y0
      have hp2 := c6 (A1 2 4) (by rw [hC, zup_f (by omega), zup_f (by omega)]; exact (tk_pg a3 (by omega)).1) (by rw [hC, zup_f (by omega), zup_f (by omega)]; exact (tk_pg a3 (by omega)).2)
      have fA : ∀ x y, ¬ (x = 2 ∧ 3 ≤ y ∧ y ≤ 9) → ¬ (x = 7 ∧ y = A1 4 8) → ¬ (x = 4 ∧ y = 8) → A2 x y = A1 x y := fun x y z1 z2 z3 => by
        rw [c4 x y z1, hC, zup_f (by omega), zup_f (by omega)]
      have fB : ∀ x y, ¬ (x = 197 ∧ ((5 ≤ y ∧ y ≤ 9) ∨ y = 12)) → ¬ (x = 205 ∧ y = (15 + B1 200 2)) → B2 x y = B1 x y := fun x y z1 z2 => by
        rw [c5 x y z1, hDm, zup_f (by omega)]
      have g0 : B2 200 2 = B1 200 2 := fB _ _ (by omega) (by omega)
      rw [hDm] at c2
      have b2' := b2 B2 c2
      refine ⟨A2, zup B2 200 2 (B1 200 2 + 1), 1, ?_, ?_, fun x y z1 z2 z3 => ?_, fun x y z1 z2 z3 z4 => ?_, Or.inl ⟨rfl, ?_, ?_, ?_⟩⟩
      · rw [hC] at c1
        simp (disch := first | assumption | exact zrm0 | exact zrm1 _ | exact zrm2 _ _ | exact zrm3 _ _ _ | exact zrm4 _ _ _ _ | omega) only [m83, ↓k_dp, ↓k_dn, k_dp, k_dn, k_dT, k_dF, k_ip, k_in, if_true, if_false, ne_eq, not_true_eq_false, not_false_eq_true, Int.reduceAdd, zup_a, zup_e, zup_j, z32_id, k_al0, k_gR, k_gI, k_ic, k_iclt, k_v2r, k_rz, k_v1, k_v1r, k_ifne, k_gL, k_lst, k_dup, k_iadd, k_pI, zb0_some, zb1_some, e83_0, e83_1, e83_4, e83_7, e83_8, e83_11, e83_12, e83_15, e83_16, e83_19, e83_20, e83_21, e83_24, e83_27, e83_28, e83_31, e83_34, e83_35, e83_36, e83_37, e83_40, e83_43, e83_44, e83_47, e83_50, e83_51, e83_54, e83_57, e83_58, e83_59, e83_62, e83_63, e83_66, e83_67, e83_68, e83_71, e83_72, e83_75, e83_78, e83_79, a1, b1, c1]
      · simp (disch := first | assumption | exact zrm0 | exact zrm1 _ | exact zrm2 _ _ | exact zrm3 _ _ _ | exact zrm4 _ _ _ _ | omega) only [m198, ↓k_dp, ↓k_dn, k_dp, k_dn, k_dT, k_dF, k_ip, k_in, if_true, if_false, ne_eq, not_true_eq_false, not_false_eq_true, Int.reduceAdd, zup_a, zup_e, zup_j, z32_id, k_al0, k_ic, k_v3r, k_ifeq, k_gR, k_ild, k_ildS, k_ildW, k_iadd, k_v2r, k_ifne, k_rz, k_dup2, k_ist, zb0_some, zb1_some, e198_0, e198_1, e198_2, e198_3, e198_6, e198_9, e198_10, e198_12, e198_13, e198_16, e198_17, e198_18, e198_19, e198_22, e198_25, e198_26, e198_27, e198_28, e198_31, e198_32, e198_33, e198_34, e198_35, e198_36, e198_37, e198_38, hfirst, b2', g0]
      · rw [fA x y (by omega) (by omega) (by omega)]
        exact a4 x y (by omega)
      · rw [zup_f (by omega), fB x y (by omega) (by omega)]
        exact a5 x y (by omega)
      · exact tkR_fr c3 (fun _ _ _ => rfl) (fun x y z => zup_f (by omega))
      · refine vl_question v1 (by omega) (fun x y z1 z2 z3 => fA x y (by omega) (by omega) (by omega)) (fun x y z1 z2 z3 => ?_) ?_ ?_ ?_
        · rw [zup_f (by omega)]
          exact fB x y (by omega) (by omega)
        · rw [c4 _ _ (by omega), hC, zup_e (by omega)]
        · rw [zup_e (by omega)]; omega
        · have e1 : A2 7 (A1 4 8) = A1 2 8 := by
            rw [c4 _ _ (by omega), hC, zup_a (by omega), zup_e (by omega)]
          have e2 : zup B2 200 2 (B1 200 2 + 1) 205 (15 + A1 4 8) = B1 197 12 := by
            rw [zup_a (by omega), c5 _ _ (by omega), hDm, f1.1, zup_e (by omega)]
          rw [e1, e2]
          exact b3
      · omega
    · refine ⟨A2, B2, 0, ?_, ?_, fun x y z1 z2 z3 => ?_, fun x y z1 z2 z3 z4 => ?_, Or.inr ⟨rfl, b5⟩⟩
      · simp (disch := first | assumption | exact zrm0 | exact zrm1 _ | exact zrm2 _ _ | exact zrm3 _ _ _ | exact zrm4 _ _ _ _ | omega) only [m83, ↓k_dp, ↓k_dn, k_dp, k_dn, k_dT, k_dF, k_ip, k_in, if_true, if_false, ne_eq, not_true_eq_false, not_false_eq_true, Int.reduceAdd, zup_a, zup_e, zup_j, z32_id, k_al0, k_gR, k_gI, k_ic, k_iclt, k_v2r, k_rz, k_v1, k_v1r, k_ifne, k_gL, k_lst, k_dup, k_iadd, k_pI, zb0_some, zb1_some, e83_0, e83_1, e83_4, e83_7, e83_8, e83_11, e83_12, e83_15, e83_16, e83_19, e83_20, e83_21, e83_24, e83_27, e83_28, e83_31, e83_34, e83_35, e83_36, e83_37, e83_40, e83_43, e83_44, e83_47, e83_50, e83_51, e83_54, e83_57, e83_58, e83_59, e83_62, e83_63, e83_66, e83_67, e83_68, e83_71, e83_72, e83_75, e83_78, e83_79, a1, b1]
      · simp (disch := first | assumption | exact zrm0 | exact zrm1 _ | exact zrm2 _ _ | exact zrm3 _ _ _ | exact zrm4 _ _ _ _ | omega) only [m198, ↓k_dp, ↓k_dn, k_dp, k_dn, k_dT, k_dF, k_ip, k_in, if_true, if_false, ne_eq, not_true_eq_false, not_false_eq_true, Int.reduceAdd, zup_a, zup_e, zup_j, z32_id, k_al0, k_ic, k_v3r, k_ifeq, k_gR, k_ild, k_ildS, k_ildW, k_iadd, k_v2r, k_ifne, k_rz, k_dup2, k_ist, zb0_some, zb1_some, e198_0, e198_1, e198_2, e198_3, e198_6, e198_9, e198_10, e198_12, e198_13, e198_16, e198_17, e198_18, e198_19, e198_22, e198_25, e198_26, e198_27, e198_28, e198_31, e198_32, e198_33, e198_34, e198_35, e198_36, e198_37, e198_38, hfirst, b2]
      · rw [b3 x y (by omega)]
        exact a4 x y (by omega)
      · rw [b4 x y (by omega)]
        exact a5 x y (by omega)
  · obtain ⟨Af, Bf, f1, f2, f3, f4, f5⟩ := p_fail h (k := 4) (by omega) (by omega) (fun z => by omega)
    have f1' := f1 d 0 0 (by omega)
    have f2' := f2 e y0 0 (by omega)
    have hfirst : zEm true (e + 1) 192 [(30, 197, y0), (0, 2, 0), (0, 5, 0)] B = some ((0, 0, 0), Bf) := by
      have : B 200 2 = 5 := by omega
      simp (disch := first | assumption | exact zrm0 | exact zrm1 _ | exact zrm2 _ _ | exact zrm3 _ _ _ | exact zrm4 _ _ _ _ | omega) only [m192, ↓k_dp, ↓k_dn, k_dp, k_dn, k_dT, k_dF, k_ip, k_in, if_true, if_false, ne_eq, not_true_eq_false, not_false_eq_true, Int.reduceAdd, zup_a, zup_e, zup_j, z32_id, k_al0, k_gR, k_il1, k_ild, k_ildS, k_ildW, k_il2, k_icne, k_ic, k_v2r, k_rz, k_v1, zb0_some, zb1_some, e192_0, e192_1, e192_4, e192_5, e192_6, e192_7, e192_10, e192_11, e192_12, e192_15, e192_16, e192_17, e192_20, e192_21, f2']
    refine ⟨Af, Bf, 0, ?_, ?_, frV_X frV_r f3, frW_Y frW_r f4, Or.inr ⟨rfl, f5⟩⟩
    · simp (disch := first | assumption | exact zrm0 | exact zrm1 _ | exact zrm2 _ _ | exact zrm3 _ _ _ | exact zrm4 _ _ _ _ | omega) only [m83, ↓k_dp, ↓k_dn, k_dp, k_dn, k_dT, k_dF, k_ip, k_in, if_true, if_false, ne_eq, not_true_eq_false, not_false_eq_true, Int.reduceAdd, zup_a, zup_e, zup_j, z32_id, k_al0, k_gR, k_gI, k_ic, k_iclt, k_v2r, k_rz, k_v1, k_v1r, k_ifne, k_gL, k_lst, k_dup, k_iadd, k_pI, zb0_some, zb1_some, e83_0, e83_1, e83_4, e83_7, e83_8, e83_11, e83_12, e83_15, e83_16, e83_19, e83_20, e83_21, e83_24, e83_27, e83_28, e83_31, e83_34, e83_35, e83_36, e83_37, e83_40, e83_43, e83_44, e83_47, e83_50, e83_51, e83_54, e83_57, e83_58, e83_59, e83_62, e83_63, e83_66, e83_67, e83_68, e83_71, e83_72, e83_75, e83_78, e83_79, f1']
    · simp (disch := first | assumption | exact zrm0 | exact zrm1 _ | exact zrm2 _ _ | exact zrm3 _ _ _ | exact zrm4 _ _ _ _ | omega) only [m198, ↓k_dp, ↓k_dn, k_dp, k_dn, k_dT, k_dF, k_ip, k_in, if_true, if_false, ne_eq, not_true_eq_false, not_false_eq_true, Int.reduceAdd, zup_a, zup_e, zup_j, z32_id, k_al0, k_ic, k_v3r, k_ifeq, k_gR, k_ild, k_ildS, k_ildW, k_iadd, k_v2r, k_ifne, k_rz, k_dup2, k_ist, zb0_some, zb1_some, e198_0, e198_1, e198_2, e198_3, e198_6, e198_9, e198_10, e198_12, e198_13, e198_16, e198_17, e198_18, e198_19, e198_22, e198_25, e198_26, e198_27, e198_28, e198_31, e198_32, e198_33, e198_34, e198_35, e198_36, e198_37, e198_38, hfirst]
