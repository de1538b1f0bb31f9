/-! a sentence is read: what joins its ones -/
def snP (A B : zM) (s o m : Int) : Prop := A 20 4 = s ∧ A 20 5 = o ∧ B 197 46 = s ∧ B 197 47 = o ∧ B 197 48 = 8 - m
def onQ (A B A' B' : zM) (s o m r : Int) : Prop := frS A A' ∧ frT B B' ∧ ((r = 1 ∧ tkR A' B' ∧ ∃ (s' o' : Int) (n : Nat), (o < o' ∧ o' ≤ 20 ∧ s < s' ∧ s' ≤ s + 2 * (o' - o) - 1) ∧ snP A' B' s' o' m ∧ B' 197 49 = s' - 1 ∧ ((n : Int) ≤ s' - s ∧ tR (A' 21) (A' 22) (A' 23) (B' 218) n s s') ∧ pfx s A A' B B') ∨ (r = 0 ∧ flR A' B'))
def snO (cj rj a b : Nat) (m : Int) : Prop := ∀ (A B : zM) (s o dp : Int) (D E : Nat) (x0 y1 y0 : Int), tkR A B → nmB A B → snP A B s o m → 0 ≤ s → s ≤ 2 * o → 0 ≤ o → o ≤ 20 → dp = 9 - m → 1 ≤ dp → a ≤ D → b ≤ E → ∃ A' B' r, zEm true D cj [(24, 1, x0), (28, 30, y1), (0, dp, 0)] A = some ((0, r, 0), A') ∧ zEm true E rj [(30, 197, y0)] B = some ((0, r, 0), B') ∧ onQ A B A' B' s o m r
theorem nmB_ST {A B A' B' : zM} (h : nmB A B) (a : frS A A') (b : frT B B') : nmB A' B' := nmB_fr h (fun x y z => a x y (by omega) (by omega) (by omega)) (fun x y z => b x y (by omega) (by omega))
theorem onQ_r {A B A' B' : zM} {s o m r : Int} (h : onQ A B A' B' s o m r) : r = 0 ∨ r = 1 := by
  rcases h.2.2 with z | z
  · exact Or.inr z.1
  · exact Or.inl z.1
/-- a tree joined of two -/
theorem tR_two {A2 B2 : zM} {s0 s s' k w : Int} {n1 n2 : Nat} (hs : s0 < s ∧ s < s' ∧ s' < 40 ∧ 0 ≤ s0) (h1 : tR (A2 21) (A2 22) (A2 23) (B2 218) n1 s0 s) (h2 : tR (A2 21) (A2 22) (A2 23) (B2 218) n2 s s') (hk : (k = 1 ∧ w = 2) ∨ (k = 0 ∧ w = 3)) : tR (snA A2 s' k 0 0 21) (snA A2 s' k 0 0 22) (snA A2 s' k 0 0 23) (snB B2 s' w (s - 1) (s' - 1) 0 218) (max n1 n2 + 1) s0 (s' + 1) := by
  obtain ⟨-, a2, a3, a4⟩ := snA_r (A := A2) (s := s') (w := k) (n := 0) (g := 0)
  obtain ⟨-, b2, b3, b4, b5⟩ := snB_r (B := B2) (s := s') (w := w) (a := s - 1) (b := s' - 1) (r := 0)
  have e : s' + 1 - 1 = s' := by omega
  have g : ∀ f t n, 0 ≤ f → t ≤ s' → tR (A2 21) (A2 22) (A2 23) (B2 218) n f t → tR (snA A2 s' k 0 0 21) (snA A2 s' k 0 0 22) (snA A2 s' k 0 0 23) (snB B2 s' w (s - 1) (s' - 1) 0 218) n f t := fun f t n f0 t1 h => by
    refine tR_eq n f t (fun j j0 j1 => ⟨?_, ?_, ?_⟩) (fun y y0 y1 => ?_) h
    · exact snA_f (by omega) (by omega)
    · exact snA_f (by omega) (by omega)
    · exact snA_f (by omega) (by omega)
    · exact snB_f (by omega) (by omega)
  refine ⟨⟨hs.2.2.2, by omega⟩, Or.inr (Or.inr ⟨s, hs.1, by omega, ?_, ?_, ?_, tR_mono n1 _ _ _ (by omega) (g _ _ _ (by omega) (by omega) h1), ?_⟩)⟩
  · rw [e, a2, b2]; exact hk
  · rw [e, b3]
  · rw [e, b4]; omega
  · rw [e]
    exact tR_mono n2 _ _ _ (by omega) (g _ _ _ (by omega) (by omega) h2)

theorem all_loop {a b : Nat} {m : Int} (ha : 8 ≤ a) (hb : 8 ≤ b) (hI : snO 94 289 a b m) (d e : Nat) (hd : a ≤ d) (he : b ≤ e) (x0 y1 y0 dp : Int) (hdp : dp = 9 - m) (hdp1 : 1 ≤ dp) (s0 o0 : Int) (s00 : 0 ≤ s0) (o00 : 0 ≤ o0) : ∀ (n : Nat) (A B : zM) (s o p : Int) (nn : Nat), tkR A B → nmB A B → snP A B s o m → s0 < s → s ≤ 2 * o → o ≤ 20 → o + n = 20 → 0 ≤ p → p < o - o0 → ((nn : Int) ≤ s - s0 ∧ tR (A 21) (A 22) (A 23) (B 218) nn s0 s) → ∃ A' B' r, zEv true d 93 13 [(24, 1, x0), (28, 30, y1), (0, dp, 0), (0, p, 0)] [] A = some ((0, r, 0), A') ∧ zEv true e 288 14 [(30, 197, y0), (0, s - 1, 0)] [] B = some ((0, r, 0), B') ∧ frS A A' ∧ frT B B' ∧ ((r = 1 ∧ tkR A' B' ∧ ∃ (s' o' : Int) (n' : Nat), (o ≤ o' ∧ o' ≤ 20 ∧ s ≤ s' ∧ s' ≤ s + 2 * (o' - o)) ∧ snP A' B' s' o' m ∧ B' 197 49 = s' - 1 ∧ ((n' : Int) ≤ s' - s0 ∧ tR (A' 21) (A' 22) (A' 23) (B' 218) n' s0 s') ∧ pfx s A A' B B') ∨ (r = 0 ∧ flR A' B'))
  | n, A, B, s, o, p, nn, h, nb, hP, hs, hso, ho, hn, p0, p1, hT => by
    have wb := h.2.wb
    have hw := p_isWord h (k := 22) (by omega) (by omega) e (by omega) y0 0
    rw [show wk 22 = 26 from rfl] at hw
    by_cases c : A 2 7 = 26
    · rw [if_pos c] at hw
      obtain ⟨A1, B1, a1, a2, a3, a4, a5, -⟩ := p_go h.1 d e (by omega) (by omega) 0 y0
      have a4 := agX_a a4
      have a5 := agY_g a5
      obtain ⟨q1, q2, q3, q4, q5⟩ := hP
      have hP1 : snP A1 B1 s o m := ⟨by rw [a4 _ _ (by omega)]; exact q1, by rw [a4 _ _ (by omega)]; exact q2, by rw [a5 _ _ (by omega)]; exact q3, by rw [a5 _ _ (by omega)]; exact q4, by rw [a5 _ _ (by omega)]; exact q5⟩
      have nb1 : nmB A1 B1 := nmB_ST nb (frS_X a4) (frT_Y a5)
      obtain ⟨A2, B2, r, b1, b2, b3, b4, b5⟩ := hI A1 B1 s o dp d e x0 y1 y0 a3 nb1 hP1 (by omega) hso (by omega) ho hdp hdp1 hd he
      rcases b5 with ⟨rfl, b6, s', o', n2, ⟨i1, i2, i3, i4⟩, i5, i6, ⟨i7, i8⟩, i9⟩ | ⟨rfl, b6⟩
      · obtain ⟨j1, j2, j3, j4, j5⟩ := id i5
        have hs40 : s' < 40 := by omega
        have hT2 : tR (A2 21) (A2 22) (A2 23) (B2 218) nn s0 s := by
          refine tR_eq nn s0 s (fun j j0 j1 => ⟨?_, ?_, ?_⟩) (fun y y0 y1 => ?_) hT.2
          · rw [i9.1 21 j (by omega) (by omega) (by omega) j1]; exact a4 _ _ (by omega)
          · rw [i9.1 22 j (by omega) (by omega) (by omega) j1]; exact a4 _ _ (by omega)
          · rw [i9.1 23 j (by omega) (by omega) (by omega) j1]; exact a4 _ _ (by omega)
          · rw [i9.2 y (by omega) y1]; exact a5 _ _ (by omega)
        have hadd := s_sadd d (by omega) 0 1 0 0 0 0 0 s' A2 j1 (by omega) hs40
        have hsay := r_says e (by omega) y0 2 0 (s - 1) 0 (s' - 1) 0 0 0 s' B2 j3 (by omega) (by omega)
        have hT3 := tR_two (k := 1) (w := 2) ⟨hs, i3, hs40, s00⟩ hT2 i8 (by omega)
        have hT3k : tkR (snA A2 s' 1 0 0) (snB B2 s' 2 (s - 1) (s' - 1) 0) := tkR_fr b6 (fun x y z => snA_f (by omega) (by omega)) (fun x y z => snB_f (by omega) (by omega))
        have hP3 : snP (snA A2 s' 1 0 0) (snB B2 s' 2 (s - 1) (s' - 1) 0) (s' + 1) o' m := ⟨snA_r.1, by rw [snA_f (by omega) (by omega)]; exact j2, snB_r.1, by rw [snB_f (by omega) (by omega)]; exact j4, by rw [snB_f (by omega) (by omega)]; exact j5⟩
        have nb3 : nmB (snA A2 s' 1 0 0) (snB B2 s' 2 (s - 1) (s' - 1) 0) := nmB_ST (nmB_ST nb1 b3 b4) frS_a frT_b
        obtain ⟨k, hk⟩ : ∃ k : Nat, o' + k = 20 := ⟨(20 - o').toNat, by omega⟩
        match n, hn with
        | 0, hn => omega
        | n + 1, hn =>
          have hkn : k ≤ n := by omega
          obtain ⟨A', B', r, c1, c2, c3, c4, c5⟩ := all_loop ha hb hI d e hd he x0 y1 y0 dp hdp hdp1 s0 o0 s00 o00 k (snA A2 s' 1 0 0) (snB B2 s' 2 (s - 1) (s' - 1) 0) (s' + 1) o' (p + 1) _ hT3k nb3 hP3 (by omega) (by omega) i2 hk (by omega) (by omega) ⟨by omega, hT3⟩
          have eS : s' + 1 - 1 = s' := by omega
          rw [eS] at c2
          refine ⟨A', B', r, ?_, ?_, frS_t (frS_t (frS_t (frS_X a4) b3) frS_a) c3, frT_t (frT_t (frT_t (frT_Y a5) b4) frT_b) c4, ?_⟩
          · rw [← c1, e93_13]
            simp (disch := first | assumption | exact zrm0 | exact zrm1 _ | exact zrm2 _ _ | exact zrm3 _ _ _ | exact zrm4 _ _ _ _ | omega) only [m93, ↓k_dp, ↓k_dn, k_dp, k_dn, k_dT, k_dF, k_ip, k_in, if_true, if_false, ne_eq, not_true_eq_false, not_false_eq_true, Int.reduceAdd, zup_a, zup_e, zup_j, z32_id, k_al0, k_al1, k_il2, k_v3r, k_ifne, k_ic, k_rz, k_is3, k_il3, k_icge, k_gR, k_gE, k_en, k_acne, k_v1, k_ifeq, k_v4r, k_inc3, k_goto, zb0_some, zb1_some, e93_0, e93_1, e93_2, e93_3, e93_6, e93_9, e93_10, e93_11, e93_12, e93_14, e93_16, e93_19, e93_20, e93_23, e93_26, e93_29, e93_32, e93_33, e93_36, e93_39, e93_40, e93_41, e93_42, e93_45, e93_48, e93_49, e93_52, e93_53, e93_54, e93_55, e93_58, e93_61, e93_62, e93_63, e93_66, e93_69, e93_70, a1, b1, hadd]
          · rw [← c2, e288_14]
            simp (disch := first | assumption | exact zrm0 | exact zrm1 _ | exact zrm2 _ _ | exact zrm3 _ _ _ | exact zrm4 _ _ _ _ | omega) only [m288, ↓k_dp, ↓k_dn, k_dp, k_dn, k_dT, k_dF, k_ip, k_in, if_true, if_false, ne_eq, not_true_eq_false, not_false_eq_true, Int.reduceAdd, zup_a, zup_e, zup_j, z32_id, k_al0, k_v1r, k_ifne, k_ic, k_rz, k_gI, k_is1, k_v2r, k_ifeq, k_v1, k_il1, k_v5r, k_goto, k_pI, zb0_some, zb1_some, e288_0, e288_1, e288_4, e288_7, e288_8, e288_9, e288_10, e288_13, e288_15, e288_17, e288_20, e288_23, e288_24, e288_27, e288_28, e288_31, e288_34, e288_35, e288_36, e288_37, e288_38, e288_39, e288_40, e288_43, e288_44, e288_47, e288_48, e288_51, e288_52, e288_53, e288_56, e288_57, hw, a2, b2, i6, hsay]
          · rcases c5 with ⟨rfl, k1, s2, o2, n3, ⟨k2, k3, k4, k5⟩, k6, k7, k8, k9⟩ | ⟨rfl, k1⟩
            · refine Or.inl ⟨rfl, k1, s2, o2, n3, ⟨by omega, k3, by omega, by omega⟩, k6, k7, k8, ?_⟩
              exact pfx_t (pfx_t (pfx_t (pfx_XY a4 a5) i9 (Int.le_refl s)) (pfx_add (s := s') (w := 1) (n := 0) (g := 0) (w' := 2) (a := s - 1) (b := s' - 1) (r := 0)) (by omega)) k9 (by omega)
            · exact Or.inr ⟨rfl, k1⟩
      · refine ⟨A2, B2, 0, ?_, ?_, frS_t (frS_X a4) b3, frT_t (frT_Y a5) b4, Or.inr ⟨rfl, b6⟩⟩
        · rw [e93_13]
          simp (disch := first | assumption | exact zrm0 | exact zrm1 _ | exact zrm2 _ _ | exact zrm3 _ _ _ | exact zrm4 _ _ _ _ | omega) only [m93, ↓k_dp, ↓k_dn, k_dp, k_dn, k_dT, k_dF, k_ip, k_in, if_true, if_false, ne_eq, not_true_eq_false, not_false_eq_true, Int.reduceAdd, zup_a, zup_e, zup_j, z32_id, k_al0, k_al1, k_il2, k_v3r, k_ifne, k_ic, k_rz, k_is3, k_il3, k_icge, k_gR, k_gE, k_en, k_acne, k_v1, k_ifeq, k_v4r, k_inc3, k_goto, zb0_some, zb1_some, e93_0, e93_1, e93_2, e93_3, e93_6, e93_9, e93_10, e93_11, e93_12, e93_14, e93_16, e93_19, e93_20, e93_23, e93_26, e93_29, e93_32, e93_33, e93_36, e93_39, e93_40, e93_41, e93_42, e93_45, e93_48, e93_49, e93_52, e93_53, e93_54, e93_55, e93_58, e93_61, e93_62, e93_63, e93_66, e93_69, e93_70, a1, b1]
        · rw [e288_14]
          simp (disch := first | assumption | exact zrm0 | exact zrm1 _ | exact zrm2 _ _ | exact zrm3 _ _ _ | exact zrm4 _ _ _ _ | omega) only [m288, ↓k_dp, ↓k_dn, k_dp, k_dn, k_dT, k_dF, k_ip, k_in, if_true, if_false, ne_eq, not_true_eq_false, not_false_eq_true, Int.reduceAdd, zup_a, zup_e, zup_j, z32_id, k_al0, k_v1r, k_ifne, k_ic, k_rz, k_gI, k_is1, k_v2r, k_ifeq, k_v1, k_il1, k_v5r, k_goto, k_pI, zb0_some, zb1_some, e288_0, e288_1, e288_4, e288_7, e288_8, e288_9, e288_10, e288_13, e288_15, e288_17, e288_20, e288_23, e288_24, e288_27, e288_28, e288_31, e288_34, e288_35, e288_36, e288_37, e288_38, e288_39, e288_40, e288_43, e288_44, e288_47, e288_48, e288_51, e288_52, e288_53, e288_56, e288_57, hw, a2, b2]
    · rw [if_neg c] at hw
      obtain ⟨q1, q2, q3, q4, q5⟩ := id hP
      have fB : ∀ x y, ¬ (x = 197 ∧ y = 49) → zup B 197 49 (s - 1) x y = B x y := fun x y z => zup_f z
      refine ⟨A, zup B 197 49 (s - 1), 1, ?_, ?_, frS_r, fun x y z1 z2 => fB x y (by omega), Or.inl ⟨rfl, tkR_fr h (fun _ _ _ => rfl) (fun x y z => fB x y (by omega)), s, o, nn, ⟨Int.le_refl o, ho, Int.le_refl s, by omega⟩, ⟨q1, q2, by rw [fB _ _ (by omega)]; exact q3, by rw [fB _ _ (by omega)]; exact q4, by rw [fB _ _ (by omega)]; exact q5⟩, zup_e (by omega), ⟨hT.1, ?_⟩, fun _ _ _ _ _ _ => rfl, fun y _ _ => fB _ _ (by omega)⟩⟩
      · rw [e93_13]
        simp (disch := first | assumption | exact zrm0 | exact zrm1 _ | exact zrm2 _ _ | exact zrm3 _ _ _ | exact zrm4 _ _ _ _ | omega) only [m93, ↓k_dp, ↓k_dn, k_dp, k_dn, k_dT, k_dF, k_ip, k_in, if_true, if_false, ne_eq, not_true_eq_false, not_false_eq_true, Int.reduceAdd, zup_a, zup_e, zup_j, z32_id, k_al0, k_al1, k_il2, k_v3r, k_ifne, k_ic, k_rz, k_is3, k_il3, k_icge, k_gR, k_gE, k_en, k_acne, k_v1, k_ifeq, k_v4r, k_inc3, k_goto, zb0_some, zb1_some, e93_0, e93_1, e93_2, e93_3, e93_6, e93_9, e93_10, e93_11, e93_12, e93_14, e93_16, e93_19, e93_20, e93_23, e93_26, e93_29, e93_32, e93_33, e93_36, e93_39, e93_40, e93_41, e93_42, e93_45, e93_48, e93_49, e93_52, e93_53, e93_54, e93_55, e93_58, e93_61, e93_62, e93_63, e93_66, e93_69, e93_70]
      · rw [e288_14]
        simp (disch := first | assumption | exact zrm0 | exact zrm1 _ | exact zrm2 _ _ | exact zrm3 _ _ _ | exact zrm4 _ _ _ _ | omega) only [m288, ↓k_dp, ↓k_dn, k_dp, k_dn, k_dT, k_dF, k_ip, k_in, if_true, if_false, ne_eq, not_true_eq_false, not_false_eq_true, Int.reduceAdd, zup_a, zup_e, zup_j, z32_id, k_al0, k_v1r, k_ifne, k_ic, k_rz, k_gI, k_is1, k_v2r, k_ifeq, k_v1, k_il1, k_v5r, k_goto, k_pI, zb0_some, zb1_some, e288_0, e288_1, e288_4, e288_7, e288_8, e288_9, e288_10, e288_13, e288_15, e288_17, e288_20, e288_23, e288_24, e288_27, e288_28, e288_31, e288_34, e288_35, e288_36, e288_37, e288_38, e288_39, e288_40, e288_43, e288_44, e288_47, e288_48, e288_51, e288_52, e288_53, e288_56, e288_57, hw]
      · exact tR_eq nn s0 s (fun _ _ _ => ⟨rfl, rfl, rfl⟩) (fun y _ _ => fB _ _ (by omega)) hT.2
termination_by n => n
theorem all_of {a b : Nat} {m : Int} (ha : 8 ≤ a) (hb : 8 ≤ b) (hI : snO 94 289 a b m) : snO 93 288 (a + 1) (b + 1) m := by
  intro A B s o dp D E x0 y1 y0 h nb hP s0 hso o0 ho hdp hdp1 hD hE
  obtain ⟨d, rfl⟩ : ∃ d, D = d + 1 := ⟨D - 1, by omega⟩
  obtain ⟨e, rfl⟩ : ∃ e, E = e + 1 := ⟨E - 1, by omega⟩
  obtain ⟨A1, B1, r, a1, a2, a3, a4, a5⟩ := hI A B s o dp d e x0 y1 y0 h nb hP s0 hso o0 ho hdp hdp1 (by omega) (by omega)
  rcases a5 with ⟨rfl, b1, s1, o1, n1, ⟨b2, b3, b4, b5⟩, b6, b7, b8, b9⟩ | ⟨rfl, b1⟩
  · obtain ⟨k, hk⟩ : ∃ k : Nat, o1 + k = 20 := ⟨(20 - o1).toNat, by omega⟩
    obtain ⟨A', B', r, c1, c2, c3, c4, c5⟩ := all_loop ha hb hI d e (by omega) (by omega) x0 y1 y0 dp hdp hdp1 s o s0 o0 k A1 B1 s1 o1 0 n1 b1 (nmB_ST nb a3 a4) b6 b4 (by omega) b3 hk (by omega) (by omega) b8
    refine ⟨A', B', r, ?_, ?_, frS_t a3 c3, frT_t a4 c4, ?_⟩
    · rw [← c1]
      simp (disch := first | assumption | exact zrm0 | exact zrm1 _ | exact zrm2 _ _ | exact zrm3 _ _ _ | exact zrm4 _ _ _ _ | omega) only [m93, ↓k_dp, ↓k_dn, k_dp, k_dn, k_dT, k_dF, k_ip, k_in, if_true, if_false, ne_eq, not_true_eq_false, not_false_eq_true, Int.reduceAdd, zup_a, zup_e, zup_j, z32_id, k_al0, k_al1, k_il2, k_v3r, k_ifne, k_ic, k_rz, k_is3, k_il3, k_icge, k_gR, k_gE, k_en, k_acne, k_v1, k_ifeq, k_v4r, k_inc3, k_goto, zb0_some, zb1_some, e93_0, e93_1, e93_2, e93_3, e93_6, e93_9, e93_10, e93_11, e93_12, e93_14, e93_16, e93_19, e93_20, e93_23, e93_26, e93_29, e93_32, e93_33, e93_36, e93_39, e93_40, e93_41, e93_42, e93_45, e93_48, e93_49, e93_52, e93_53, e93_54, e93_55, e93_58, e93_61, e93_62, e93_63, e93_66, e93_69, e93_70, a1]
    · rw [← c2]
      simp (disch := first | assumption | exact zrm0 | exact zrm1 _ | exact zrm2 _ _ | exact zrm3 _ _ _ | exact zrm4 _ _ _ _ | omega) only [m288, ↓k_dp, ↓k_dn, k_dp, k_dn, k_dT, k_dF, k_ip, k_in, if_true, if_false, ne_eq, not_true_eq_false, not_false_eq_true, Int.reduceAdd, zup_a, zup_e, zup_j, z32_id, k_al0, k_v1r, k_ifne, k_ic, k_rz, k_gI, k_is1, k_v2r, k_ifeq, k_v1, k_il1, k_v5r, k_goto, k_pI, zb0_some, zb1_some, e288_0, e288_1, e288_4, e288_7, e288_8, e288_9, e288_10, e288_13, e288_15, e288_17, e288_20, e288_23, e288_24, e288_27, e288_28, e288_31, e288_34, e288_35, e288_36, e288_37, e288_38, e288_39, e288_40, e288_43, e288_44, e288_47, e288_48, e288_51, e288_52, e288_53, e288_56, e288_57, a2, b7]
    · rcases c5 with ⟨rfl, k1, s2, o2, n3, ⟨k2, k3, k4, k5⟩, k6, k7, k8, k9⟩ | ⟨rfl, k1⟩
      · exact Or.inl ⟨rfl, k1, s2, o2, n3, ⟨by omega, k3, by omega, by omega⟩, k6, k7, k8, pfx_t b9 k9 (by omega)⟩
      · exact Or.inr ⟨rfl, k1⟩
  · refine ⟨A1, B1, 0, ?_, ?_, a3, a4, Or.inr ⟨rfl, b1⟩⟩
    · simp (disch := first | assumption | exact zrm0 | exact zrm1 _ | exact zrm2 _ _ | exact zrm3 _ _ _ | exact zrm4 _ _ _ _ | omega) only [m93, ↓k_dp, ↓k_dn, k_dp, k_dn, k_dT, k_dF, k_ip, k_in, if_true, if_false, ne_eq, not_true_eq_false, not_false_eq_true, Int.reduceAdd, zup_a, zup_e, zup_j, z32_id, k_al0, k_al1, k_il2, k_v3r, k_ifne, k_ic, k_rz, k_is3, k_il3, k_icge, k_gR, k_gE, k_en, k_acne, k_v1, k_ifeq, k_v4r, k_inc3, k_goto, zb0_some, zb1_some, e93_0, e93_1, e93_2, e93_3, e93_6, e93_9, e93_10, e93_11, e93_12, e93_14, e93_16, e93_19, e93_20, e93_23, e93_26, e93_29, e93_32, e93_33, e93_36, e93_39, e93_40, e93_41, e93_42, e93_45, e93_48, e93_49, e93_52, e93_53, e93_54, e93_55, e93_58, e93_61, e93_62, e93_63, e93_66, e93_69, e93_70, a1]
    · simp (disch := first | assumption | exact zrm0 | exact zrm1 _ | exact zrm2 _ _ | exact zrm3 _ _ _ | exact zrm4 _ _ _ _ | omega) only [m288, ↓k_dp, ↓k_dn, k_dp, k_dn, k_dT, k_dF, k_ip, k_in, if_true, if_false, ne_eq, not_true_eq_false, not_false_eq_true, Int.reduceAdd, zup_a, zup_e, zup_j, z32_id, k_al0, k_v1r, k_ifne, k_ic, k_rz, k_gI, k_is1, k_v2r, k_ifeq, k_v1, k_il1, k_v5r, k_goto, k_pI, zb0_some, zb1_some, e288_0, e288_1, e288_4, e288_7, e288_8, e288_9, e288_10, e288_13, e288_15, e288_17, e288_20, e288_23, e288_24, e288_27, e288_28, e288_31, e288_34, e288_35, e288_36, e288_37, e288_38, e288_39, e288_40, e288_43, e288_44, e288_47, e288_48, e288_51, e288_52, e288_53, e288_56, e288_57, a2]

theorem cond_loop {a b : Nat} {m : Int} (ha : 8 ≤ a) (hb : 8 ≤ b) (hI : snO 93 288 a b m) (d e : Nat) (hd : a ≤ d) (he : b ≤ e) (x0 y1 y0 dp : Int) (hdp : dp = 9 - m) (hdp1 : 1 ≤ dp) (s0 o0 : Int) (s00 : 0 ≤ s0) (o00 : 0 ≤ o0) : ∀ (n : Nat) (A B : zM) (s o p : Int) (nn : Nat), tkR A B → nmB A B → snP A B s o m → s0 < s → s ≤ 2 * o → o ≤ 20 → o + n = 20 → 0 ≤ p → p < o - o0 → ((nn : Int) ≤ s - s0 ∧ tR (A 21) (A 22) (A 23) (B 218) nn s0 s) → ∃ A' B' r, zEv true d 92 13 [(24, 1, x0), (28, 30, y1), (0, dp, 0), (0, p, 0)] [] A = some ((0, r, 0), A') ∧ zEv true e 287 14 [(30, 197, y0), (0, s - 1, 0)] [] B = some ((0, r, 0), B') ∧ frS A A' ∧ frT B B' ∧ ((r = 1 ∧ tkR A' B' ∧ ∃ (s' o' : Int) (n' : Nat), (o ≤ o' ∧ o' ≤ 20 ∧ s ≤ s' ∧ s' ≤ s + 2 * (o' - o)) ∧ snP A' B' s' o' m ∧ B' 197 49 = s' - 1 ∧ ((n' : Int) ≤ s' - s0 ∧ tR (A' 21) (A' 22) (A' 23) (B' 218) n' s0 s') ∧ pfx s A A' B B') ∨ (r = 0 ∧ flR A' B'))
  | n, A, B, s, o, p, nn, h, nb, hP, hs, hso, ho, hn, p0, p1, hT => by
    have wb := h.2.wb
    have hw := p_isWord h (k := 21) (by omega) (by omega) e (by omega) y0 0
    rw [show wk 21 = 25 from rfl] at hw
    by_cases c : A 2 7 = 25
    · rw [if_pos c] at hw
      obtain ⟨A1, B1, a1, a2, a3, a4, a5, -⟩ := p_go h.1 d e (by omega) (by omega) 0 y0
      have a4 := agX_a a4
      have a5 := agY_g a5
      obtain ⟨q1, q2, q3, q4, q5⟩ := hP
      have hP1 : snP A1 B1 s o m := ⟨by rw [a4 _ _ (by omega)]; exact q1, by rw [a4 _ _ (by omega)]; exact q2, by rw [a5 _ _ (by omega)]; exact q3, by rw [a5 _ _ (by omega)]; exact q4, by rw [a5 _ _ (by omega)]; exact q5⟩
      have nb1 : nmB A1 B1 := nmB_ST nb (frS_X a4) (frT_Y a5)
      obtain ⟨A2, B2, r, b1, b2, b3, b4, b5⟩ := hI A1 B1 s o dp d e x0 y1 y0 a3 nb1 hP1 (by omega) hso (by omega) ho hdp hdp1 hd he
      rcases b5 with ⟨rfl, b6, s', o', n2, ⟨i1, i2, i3, i4⟩, i5, i6, ⟨i7, i8⟩, i9⟩ | ⟨rfl, b6⟩
      · obtain ⟨j1, j2, j3, j4, j5⟩ := id i5
        have hs40 : s' < 40 := by omega
        have hT2 : tR (A2 21) (A2 22) (A2 23) (B2 218) nn s0 s := by
          refine tR_eq nn s0 s (fun j j0 j1 => ⟨?_, ?_, ?_⟩) (fun y y0 y1 => ?_) hT.2
          · rw [i9.1 21 j (by omega) (by omega) (by omega) j1]; exact a4 _ _ (by omega)
          · rw [i9.1 22 j (by omega) (by omega) (by omega) j1]; exact a4 _ _ (by omega)
          · rw [i9.1 23 j (by omega) (by omega) (by omega) j1]; exact a4 _ _ (by omega)
          · rw [i9.2 y (by omega) y1]; exact a5 _ _ (by omega)
        have hadd := s_sadd d (by omega) 0 0 0 0 0 0 0 s' A2 j1 (by omega) hs40
        have hsay := r_says e (by omega) y0 3 0 (s - 1) 0 (s' - 1) 0 0 0 s' B2 j3 (by omega) (by omega)
        have hT3 := tR_two (k := 0) (w := 3) ⟨hs, i3, hs40, s00⟩ hT2 i8 (by omega)
        have hT3k : tkR (snA A2 s' 0 0 0) (snB B2 s' 3 (s - 1) (s' - 1) 0) := tkR_fr b6 (fun x y z => snA_f (by omega) (by omega)) (fun x y z => snB_f (by omega) (by omega))
        have hP3 : snP (snA A2 s' 0 0 0) (snB B2 s' 3 (s - 1) (s' - 1) 0) (s' + 1) o' m := ⟨snA_r.1, by rw [snA_f (by omega) (by omega)]; exact j2, snB_r.1, by rw [snB_f (by omega) (by omega)]; exact j4, by rw [snB_f (by omega) (by omega)]; exact j5⟩
        have nb3 : nmB (snA A2 s' 0 0 0) (snB B2 s' 3 (s - 1) (s' - 1) 0) := nmB_ST (nmB_ST nb1 b3 b4) frS_a frT_b
        obtain ⟨k, hk⟩ : ∃ k : Nat, o' + k = 20 := ⟨(20 - o').toNat, by omega⟩
        match n, hn with
        | 0, hn => omega
        | n + 1, hn =>
          have hkn : k ≤ n := by omega
          obtain ⟨A', B', r, c1, c2, c3, c4, c5⟩ := cond_loop ha hb hI d e hd he x0 y1 y0 dp hdp hdp1 s0 o0 s00 o00 k (snA A2 s' 0 0 0) (snB B2 s' 3 (s - 1) (s' - 1) 0) (s' + 1) o' (p + 1) _ hT3k nb3 hP3 (by omega) (by omega) i2 hk (by omega) (by omega) ⟨by omega, hT3⟩
          have eS : s' + 1 - 1 = s' := by omega
          rw [eS] at c2
          refine ⟨A', B', r, ?_, ?_, frS_t (frS_t (frS_t (frS_X a4) b3) frS_a) c3, frT_t (frT_t (frT_t (frT_Y a5) b4) frT_b) c4, ?_⟩
          · rw [← c1, e92_13]
            simp (disch := first | assumption | exact zrm0 | exact zrm1 _ | exact zrm2 _ _ | exact zrm3 _ _ _ | exact zrm4 _ _ _ _ | omega) only [m92, ↓k_dp, ↓k_dn, k_dp, k_dn, k_dT, k_dF, k_ip, k_in, if_true, if_false, ne_eq, not_true_eq_false, not_false_eq_true, Int.reduceAdd, zup_a, zup_e, zup_j, z32_id, k_al0, k_al1, k_il2, k_v3r, k_ifne, k_ic, k_rz, k_is3, k_il3, k_icge, k_gR, k_gE, k_en, k_acne, k_v1, k_ifeq, k_v4r, k_inc3, k_goto, zb0_some, zb1_some, e92_0, e92_1, e92_2, e92_3, e92_6, e92_9, e92_10, e92_11, e92_12, e92_14, e92_16, e92_19, e92_20, e92_23, e92_26, e92_29, e92_32, e92_33, e92_36, e92_39, e92_40, e92_41, e92_42, e92_45, e92_48, e92_49, e92_52, e92_53, e92_54, e92_55, e92_58, e92_61, e92_62, e92_63, e92_66, e92_69, e92_70, a1, b1, hadd]
          · rw [← c2, e287_14]
            simp (disch := first | assumption | exact zrm0 | exact zrm1 _ | exact zrm2 _ _ | exact zrm3 _ _ _ | exact zrm4 _ _ _ _ | omega) only [m287, ↓k_dp, ↓k_dn, k_dp, k_dn, k_dT, k_dF, k_ip, k_in, if_true, if_false, ne_eq, not_true_eq_false, not_false_eq_true, Int.reduceAdd, zup_a, zup_e, zup_j, z32_id, k_al0, k_v1r, k_ifne, k_ic, k_rz, k_gI, k_is1, k_v2r, k_ifeq, k_v1, k_il1, k_v5r, k_goto, k_pI, zb0_some, zb1_some, e287_0, e287_1, e287_4, e287_7, e287_8, e287_9, e287_10, e287_13, e287_15, e287_17, e287_20, e287_23, e287_24, e287_27, e287_28, e287_31, e287_34, e287_35, e287_36, e287_37, e287_38, e287_39, e287_40, e287_43, e287_44, e287_47, e287_48, e287_51, e287_52, e287_53, e287_56, e287_57, hw, a2, b2, i6, hsay]
          · rcases c5 with ⟨rfl, k1, s2, o2, n3, ⟨k2, k3, k4, k5⟩, k6, k7, k8, k9⟩ | ⟨rfl, k1⟩
            · refine Or.inl ⟨rfl, k1, s2, o2, n3, ⟨by omega, k3, by omega, by omega⟩, k6, k7, k8, ?_⟩
              exact pfx_t (pfx_t (pfx_t (pfx_XY a4 a5) i9 (Int.le_refl s)) (pfx_add (s := s') (w := 0) (n := 0) (g := 0) (w' := 3) (a := s - 1) (b := s' - 1) (r := 0)) (by omega)) k9 (by omega)
            · exact Or.inr ⟨rfl, k1⟩
      · refine ⟨A2, B2, 0, ?_, ?_, frS_t (frS_X a4) b3, frT_t (frT_Y a5) b4, Or.inr ⟨rfl, b6⟩⟩
        · rw [e92_13]
          simp (disch := first | assumption | exact zrm0 | exact zrm1 _ | exact zrm2 _ _ | exact zrm3 _ _ _ | exact zrm4 _ _ _ _ | omega) only [m92, ↓k_dp, ↓k_dn, k_dp, k_dn, k_dT, k_dF, k_ip, k_in, if_true, if_false, ne_eq, not_true_eq_false, not_false_eq_true, Int.reduceAdd, zup_a, zup_e, zup_j, z32_id, k_al0, k_al1, k_il2, k_v3r, k_ifne, k_ic, k_rz, k_is3, k_il3, k_icge, k_gR, k_gE, k_en, k_acne, k_v1, k_ifeq, k_v4r, k_inc3, k_goto, zb0_some, zb1_some, e92_0, e92_1, e92_2, e92_3, e92_6, e92_9, e92_10, e92_11, e92_12, e92_14, e92_16, e92_19, e92_20, e92_23, e92_26, e92_29, e92_32, e92_33, e92_36, e92_39, e92_40, e92_41, e92_42, e92_45, e92_48, e92_49, e92_52, e92_53, e92_54, e92_55, e92_58, e92_61, e92_62, e92_63, e92_66, e92_69, e92_70, a1, b1]
        · rw [e287_14]
          simp (disch := first | assumption | exact zrm0 | exact zrm1 _ | exact zrm2 _ _ | exact zrm3 _ _ _ | exact zrm4 _ _ _ _ | omega) only [m287, ↓k_dp, ↓k_dn, k_dp, k_dn, k_dT, k_dF, k_ip, k_in, if_true, if_false, ne_eq, not_true_eq_false, not_false_eq_true, Int.reduceAdd, zup_a, zup_e, zup_j, z32_id, k_al0, k_v1r, k_ifne, k_ic, k_rz, k_gI, k_is1, k_v2r, k_ifeq, k_v1, k_il1, k_v5r, k_goto, k_pI, zb0_some, zb1_some, e287_0, e287_1, e287_4, e287_7, e287_8, e287_9, e287_10, e287_13, e287_15, e287_17, e287_20, e287_23, e287_24, e287_27, e287_28, e287_31, e287_34, e287_35, e287_36, e287_37, e287_38, e287_39, e287_40, e287_43, e287_44, e287_47, e287_48, e287_51, e287_52, e287_53, e287_56, e287_57, hw, a2, b2]
    · rw [if_neg c] at hw
      obtain ⟨q1, q2, q3, q4, q5⟩ := id hP
      have fB : ∀ x y, ¬ (x = 197 ∧ y = 49) → zup B 197 49 (s - 1) x y = B x y := fun x y z => zup_f z
      refine ⟨A, zup B 197 49 (s - 1), 1, ?_, ?_, frS_r, fun x y z1 z2 => fB x y (by omega), Or.inl ⟨rfl, tkR_fr h (fun _ _ _ => rfl) (fun x y z => fB x y (by omega)), s, o, nn, ⟨Int.le_refl o, ho, Int.le_refl s, by omega⟩, ⟨q1, q2, by rw [fB _ _ (by omega)]; exact q3, by rw [fB _ _ (by omega)]; exact q4, by rw [fB _ _ (by omega)]; exact q5⟩, zup_e (by omega), ⟨hT.1, ?_⟩, fun _ _ _ _ _ _ => rfl, fun y _ _ => fB _ _ (by omega)⟩⟩
      · rw [e92_13]
        simp (disch := first | assumption | exact zrm0 | exact zrm1 _ | exact zrm2 _ _ | exact zrm3 _ _ _ | exact zrm4 _ _ _ _ | omega) only [m92, ↓k_dp, ↓k_dn, k_dp, k_dn, k_dT, k_dF, k_ip, k_in, if_true, if_false, ne_eq, not_true_eq_false, not_false_eq_true, Int.reduceAdd, zup_a, zup_e, zup_j, z32_id, k_al0, k_al1, k_il2, k_v3r, k_ifne, k_ic, k_rz, k_is3, k_il3, k_icge, k_gR, k_gE, k_en, k_acne, k_v1, k_ifeq, k_v4r, k_inc3, k_goto, zb0_some, zb1_some, e92_0, e92_1, e92_2, e92_3, e92_6, e92_9, e92_10, e92_11, e92_12, e92_14, e92_16, e92_19, e92_20, e92_23, e92_26, e92_29, e92_32, e92_33, e92_36, e92_39, e92_40, e92_41, e92_42, e92_45, e92_48, e92_49, e92_52, e92_53, e92_54, e92_55, e92_58, e92_61, e92_62, e92_63, e92_66, e92_69, e92_70]
      · rw [e287_14]
        simp (disch := first | assumption | exact zrm0 | exact zrm1 _ | exact zrm2 _ _ | exact zrm3 _ _ _ | exact zrm4 _ _ _ _ | omega) only [m287, ↓k_dp, ↓k_dn, k_dp, k_dn, k_dT, k_dF, k_ip, k_in, if_true, if_false, ne_eq, not_true_eq_false, not_false_eq_true, Int.reduceAdd, zup_a, zup_e, zup_j, z32_id, k_al0, k_v1r, k_ifne, k_ic, k_rz, k_gI, k_is1, k_v2r, k_ifeq, k_v1, k_il1, k_v5r, k_goto, k_pI, zb0_some, zb1_some, e287_0, e287_1, e287_4, e287_7, e287_8, e287_9, e287_10, e287_13, e287_15, e287_17, e287_20, e287_23, e287_24, e287_27, e287_28, e287_31, e287_34, e287_35, e287_36, e287_37, e287_38, e287_39, e287_40, e287_43, e287_44, e287_47, e287_48, e287_51, e287_52, e287_53, e287_56, e287_57, hw]
      · exact tR_eq nn s0 s (fun _ _ _ => ⟨rfl, rfl, rfl⟩) (fun y _ _ => fB _ _ (by omega)) hT.2
termination_by n => n
theorem cond_of {a b : Nat} {m : Int} (ha : 8 ≤ a) (hb : 8 ≤ b) (hI : snO 93 288 a b m) : snO 92 287 (a + 1) (b + 1) m := by
  intro A B s o dp D E x0 y1 y0 h nb hP s0 hso o0 ho hdp hdp1 hD hE
  obtain ⟨d, rfl⟩ : ∃ d, D = d + 1 := ⟨D - 1, by omega⟩
  obtain ⟨e, rfl⟩ : ∃ e, E = e + 1 := ⟨E - 1, by omega⟩
  obtain ⟨A1, B1, r, a1, a2, a3, a4, a5⟩ := hI A B s o dp d e x0 y1 y0 h nb hP s0 hso o0 ho hdp hdp1 (by omega) (by omega)
  rcases a5 with ⟨rfl, b1, s1, o1, n1, ⟨b2, b3, b4, b5⟩, b6, b7, b8, b9⟩ | ⟨rfl, b1⟩
  · obtain ⟨k, hk⟩ : ∃ k : Nat, o1 + k = 20 := ⟨(20 - o1).toNat, by omega⟩
    obtain ⟨A', B', r, c1, c2, c3, c4, c5⟩ := cond_loop ha hb hI d e (by omega) (by omega) x0 y1 y0 dp hdp hdp1 s o s0 o0 k A1 B1 s1 o1 0 n1 b1 (nmB_ST nb a3 a4) b6 b4 (by omega) b3 hk (by omega) (by omega) b8
    refine ⟨A', B', r, ?_, ?_, frS_t a3 c3, frT_t a4 c4, ?_⟩
    · rw [← c1]
      simp (disch := first | assumption | exact zrm0 | exact zrm1 _ | exact zrm2 _ _ | exact zrm3 _ _ _ | exact zrm4 _ _ _ _ | omega) only [m92, ↓k_dp, ↓k_dn, k_dp, k_dn, k_dT, k_dF, k_ip, k_in, if_true, if_false, ne_eq, not_true_eq_false, not_false_eq_true, Int.reduceAdd, zup_a, zup_e, zup_j, z32_id, k_al0, k_al1, k_il2, k_v3r, k_ifne, k_ic, k_rz, k_is3, k_il3, k_icge, k_gR, k_gE, k_en, k_acne, k_v1, k_ifeq, k_v4r, k_inc3, k_goto, zb0_some, zb1_some, e92_0, e92_1, e92_2, e92_3, e92_6, e92_9, e92_10, e92_11, e92_12, e92_14, e92_16, e92_19, e92_20, e92_23, e92_26, e92_29, e92_32, e92_33, e92_36, e92_39, e92_40, e92_41, e92_42, e92_45, e92_48, e92_49, e92_52, e92_53, e92_54, e92_55, e92_58, e92_61, e92_62, e92_63, e92_66, e92_69, e92_70, a1]
    · rw [← c2]
      simp (disch := first | assumption | exact zrm0 | exact zrm1 _ | exact zrm2 _ _ | exact zrm3 _ _ _ | exact zrm4 _ _ _ _ | omega) only [m287, ↓k_dp, ↓k_dn, k_dp, k_dn, k_dT, k_dF, k_ip, k_in, if_true, if_false, ne_eq, not_true_eq_false, not_false_eq_true, Int.reduceAdd, zup_a, zup_e, zup_j, z32_id, k_al0, k_v1r, k_ifne, k_ic, k_rz, k_gI, k_is1, k_v2r, k_ifeq, k_v1, k_il1, k_v5r, k_goto, k_pI, zb0_some, zb1_some, e287_0, e287_1, e287_4, e287_7, e287_8, e287_9, e287_10, e287_13, e287_15, e287_17, e287_20, e287_23, e287_24, e287_27, e287_28, e287_31, e287_34, e287_35, e287_36, e287_37, e287_38, e287_39, e287_40, e287_43, e287_44, e287_47, e287_48, e287_51, e287_52, e287_53, e287_56, e287_57, a2, b7]
    · rcases c5 with ⟨rfl, k1, s2, o2, n3, ⟨k2, k3, k4, k5⟩, k6, k7, k8, k9⟩ | ⟨rfl, k1⟩
      · exact Or.inl ⟨rfl, k1, s2, o2, n3, ⟨by omega, k3, by omega, by omega⟩, k6, k7, k8, pfx_t b9 k9 (by omega)⟩
      · exact Or.inr ⟨rfl, k1⟩
  · refine ⟨A1, B1, 0, ?_, ?_, a3, a4, Or.inr ⟨rfl, b1⟩⟩
    · simp (disch := first | assumption | exact zrm0 | exact zrm1 _ | exact zrm2 _ _ | exact zrm3 _ _ _ | exact zrm4 _ _ _ _ | omega) only [m92, ↓k_dp, ↓k_dn, k_dp, k_dn, k_dT, k_dF, k_ip, k_in, if_true, if_false, ne_eq, not_true_eq_false, not_false_eq_true, Int.reduceAdd, zup_a, zup_e, zup_j, z32_id, k_al0, k_al1, k_il2, k_v3r, k_ifne, k_ic, k_rz, k_is3, k_il3, k_icge, k_gR, k_gE, k_en, k_acne, k_v1, k_ifeq, k_v4r, k_inc3, k_goto, zb0_some, zb1_some, e92_0, e92_1, e92_2, e92_3, e92_6, e92_9, e92_10, e92_11, e92_12, e92_14, e92_16, e92_19, e92_20, e92_23, e92_26, e92_29, e92_32, e92_33, e92_36, e92_39, e92_40, e92_41, e92_42, e92_45, e92_48, e92_49, e92_52, e92_53, e92_54, e92_55, e92_58, e92_61, e92_62, e92_63, e92_66, e92_69, e92_70, a1]
    · simp (disch := first | assumption | exact zrm0 | exact zrm1 _ | exact zrm2 _ _ | exact zrm3 _ _ _ | exact zrm4 _ _ _ _ | omega) only [m287, ↓k_dp, ↓k_dn, k_dp, k_dn, k_dT, k_dF, k_ip, k_in, if_true, if_false, ne_eq, not_true_eq_false, not_false_eq_true, Int.reduceAdd, zup_a, zup_e, zup_j, z32_id, k_al0, k_v1r, k_ifne, k_ic, k_rz, k_gI, k_is1, k_v2r, k_ifeq, k_v1, k_il1, k_v5r, k_goto, k_pI, zb0_some, zb1_some, e287_0, e287_1, e287_4, e287_7, e287_8, e287_9, e287_10, e287_13, e287_15, e287_17, e287_20, e287_23, e287_24, e287_27, e287_28, e287_31, e287_34, e287_35, e287_36, e287_37, e287_38, e287_39, e287_40, e287_43, e287_44, e287_47, e287_48, e287_51, e287_52, e287_53, e287_56, e287_57, a2]

