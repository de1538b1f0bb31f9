/-! the fewest irons: the class, whole; the reference's words -/
def sShare (S G : zM) (q h : Int) : Int := dSh (gB S G q) (rB S G q) (G 0 7) (G 0 7).toNat (sLeast S G q) (sNeed S G q) h
theorem sNeed_bd {S G : zM} {q : Int} (hS : okS S) (hG : okG G) : 1 ≤ sNeed S G q ∧ sNeed S G q ≤ 600 := by
  have h1 := sWay_bd (g := S 4 q) (w := 1) hS hG (by omega) (by omega)
  have h2 := hG.2.2.2.2.2.2.2.2 0 (by omega) (by omega)
  unfold sNeed sMax
  split <;> omega
theorem sLeast_ok {S G : zM} {q : Int} (hS : okS S) (hG : okG G) : sLeast S G q = -1 ∨ (0 ≤ sLeast S G q ∧ sLeast S G q ≤ 200 ∧ dInv (gB S G q) (rB S G q) (G 0 7) (G 0 7).toNat (sLeast S G q) (sNeed S G q)) := by
  have hn := sNeed_bd (q := q) hS hG
  have hf := dFirst (H := G 0 7) (gB_bd (q := q) hS hG) (fun h => (rB_bd (q := q) hS hG h).1) (G 0 7).toNat (c := sNeed S G q) (by omega) 201
  unfold sLeast
  rw [hf]
  rcases zfnd_spec (p := fun t => decide (sNeed S G q ≤ dX (gB S G q) (rB S G q) (G 0 7) (G 0 7).toNat t)) 201 0 (Int.le_refl _) with ⟨a1, a2⟩ | ⟨a1, a2, a3, a4⟩
  · exact Or.inl a1
  · exact Or.inr ⟨a1, by omega, a1, by omega, of_decide_eq_true a3, fun n n0 n1 => by have := of_decide_eq_false (a4 n n0 n1); omega⟩
theorem c_bought (d : Nat) (x0 q y : Int) (M : zM) (hS : okS (zvS M 37)) (hG : okG (zvG M 30)) : (¬ (0 ≤ q ∧ q < M 30 8) → zEm true (d + 8) 27 [(29, 0, x0), (0, q, y)] M = some ((0, -1, 0), M)) ∧ ((0 ≤ q ∧ q < M 30 8) → ∃ M1, (zEm true (d + 8) 27 [(29, 0, x0), (0, q, y)] M = some ((0, if sLeast (zvS M 37) (zvG M 30) q = -1 then -1 else z32 (sLeast (zvS M 37) (zvG M 30) q * M 30 10), 0), M1)) ∧ (∀ x y, ¬ (56 ≤ x ∧ x ≤ 58) → x ≠ 52 → ¬ (x = 51 ∧ y = 4) → M1 x y = M x y) ∧ (sLeast (zvS M 37) (zvG M 30) q = -1 → ∀ x y, ¬ (56 ≤ x ∧ x ≤ 58) → M1 x y = M x y) ∧ (sLeast (zvS M 37) (zvG M 30) q ≠ -1 → M1 51 4 = M 30 7 ∧ ∀ h, 0 ≤ h → h < M 30 7 → M1 52 h = sShare (zvS M 37) (zvG M 30) q h)) := by
  have hG2 := hG
  obtain ⟨⟨g6, g6'⟩, ⟨g1, g2⟩, ⟨g3, g4⟩, -⟩ := okG_M hG2
  have e7 : zvG M 30 0 7 = M 30 7 := zvG_0 (by omega) (by omega)
  refine ⟨fun c => ?_, fun c => ?_⟩
  · simp (disch := first | assumption | exact zrm0 | exact zrm1 _ | exact zrm2 _ _ | exact zrm3 _ _ _ | exact zrm4 _ _ _ _ | omega) only [m27, ↓k_dp, ↓k_dn, k_dp, k_dn, k_dT, k_dF, k_ip, k_in, if_true, if_false, ne_eq, not_true_eq_false, not_false_eq_true, Int.reduceAdd, zup_a, zup_e, zup_j, z32_id, k_al0, k_il1, k_v2r, k_ifne, k_ic, k_ri, k_gR, k_v4r, k_is2, k_il2, k_icne, k_v5, k_gI, k_pI, k_imul, zb0_some, zb1_some, e27_0, e27_1, e27_2, e27_5, e27_8, e27_9, e27_10, e27_11, e27_14, e27_15, e27_18, e27_19, e27_22, e27_23, e27_26, e27_27, e27_28, e27_29, e27_32, e27_33, e27_34, e27_35, e27_38, e27_39, e27_42, e27_43, e27_46, e27_47, e27_48, e27_51, e27_54, e27_57, e27_58, e27_61, e27_62, e27_65, e27_68, e27_71, e27_72, e27_73, e27_76, e27_79, e27_80, c_isQuestion, if_neg c]
  obtain ⟨N, n1, n2, n3, n4, n5, n6⟩ := c_leastIrons (d + 1) 0 q 0 M hS hG c.1 (by omega)
  have hn := sNeed_bd (q := q) hS hG
  rcases sLeast_ok (q := q) hS hG with hL | ⟨l0, l1, hI⟩
  · refine ⟨N, ?_, fun x y h1 _ _ => n6 x y (by omega) (by omega) (by omega), fun _ x y h1 => n6 x y (by omega) (by omega) (by omega), fun h => absurd hL h⟩
    rw [hL] at n1
    rw [hL, if_pos rfl]
    simp (disch := first | assumption | exact zrm0 | exact zrm1 _ | exact zrm2 _ _ | exact zrm3 _ _ _ | exact zrm4 _ _ _ _ | omega) only [m27, ↓k_dp, ↓k_dn, k_dp, k_dn, k_dT, k_dF, k_ip, k_in, if_true, if_false, ne_eq, not_true_eq_false, not_false_eq_true, Int.reduceAdd, zup_a, zup_e, zup_j, z32_id, k_al0, k_il1, k_v2r, k_ifne, k_ic, k_ri, k_gR, k_v4r, k_is2, k_il2, k_icne, k_v5, k_gI, k_pI, k_imul, zb0_some, zb1_some, e27_0, e27_1, e27_2, e27_5, e27_8, e27_9, e27_10, e27_11, e27_14, e27_15, e27_18, e27_19, e27_22, e27_23, e27_26, e27_27, e27_28, e27_29, e27_32, e27_33, e27_34, e27_35, e27_38, e27_39, e27_42, e27_43, e27_46, e27_47, e27_48, e27_51, e27_54, e27_57, e27_58, e27_61, e27_62, e27_65, e27_68, e27_71, e27_72, e27_73, e27_76, e27_79, e27_80, c_isQuestion, if_pos c, n1]
  · have hne : sLeast (zvS M 37) (zvG M 30) q ≠ -1 := by omega
    rw [e7] at hI
    obtain ⟨N', i1, i2, i3, i4⟩ := c_shareH (d + 2) 0 (sLeast (zvS M 37) (zvG M 30) q) 0 M q hS hG (M 30 7).toNat (sLeast (zvS M 37) (zvG M 30) q) (sNeed (zvS M 37) (zvG M 30) q) (3, 0, 0) N (by omega) ⟨n3, n4, n5, fun x y h => n6 x y (by omega) (by omega) (by omega)⟩ l1 (by omega) (by omega) hI
    rw [show M 30 7 - ((M 30 7).toNat : Int) = 0 by omega] at i1 i3 i4
    have hsh : zEm true (d + 7) 77 [(23, 56, 0), (28, 30, 0), (26, 37, 0), (0, sLeast (zvS M 37) (zvG M 30) q, 0), (10, 52, 10)] N = some ((98, 0, 0), N') := by
      rw [← i1]
      generalize sLeast (zvS M 37) (zvG M 30) q = L at *
      simp (disch := first | assumption | exact zrm0 | exact zrm1 _ | exact zrm2 _ _ | exact zrm3 _ _ _ | exact zrm4 _ _ _ _ | omega) only [m77, ↓k_dp, ↓k_dn, k_dp, k_dn, k_dT, k_dF, k_ip, k_in, if_true, if_false, ne_eq, not_true_eq_false, not_false_eq_true, Int.reduceAdd, zup_a, zup_e, zup_j, z32_id, k_il3, k_is5, k_al0, k_gI, k_is6, k_ic, k_is7, k_il7, k_al1, k_icge, k_al4, k_len, k_is8, k_il8, k_gR, k_ild, k_ildS, k_ildW, k_il5, k_al2, k_v5r, k_iadd, k_imul, k_isub, k_il6, k_inc8, k_goto, k_ist, k_inc7, k_rv, zb0_some, zb1_some, e77_0, e77_1, e77_3, e77_4, e77_7, e77_9, e77_10, e77_14, e77_15, e77_18, e77_21, e77_23, e77_25, e77_26, e77_29, e77_30, e77_32, e77_34, e77_35, e77_38, e77_40, e77_41, e77_44, e77_46, e77_48, e77_51, e77_52, e77_53, e77_54, e77_56, e77_58, e77_61, e77_62, e77_65, e77_67, e77_68, e77_69, e77_72, e77_73, e77_75, e77_76, e77_78, e77_79, e77_80, e77_81, e77_83, e77_86, e77_89, e77_92, e77_94, e77_96, e77_98, e77_99, e77_101, e77_103, e77_104, e77_106, e77_108, e77_109, e77_110, e77_111, e77_113, e77_115, e77_118, e77_119, e77_121, e77_124, e77_127, n2]
    have m7 : N' 30 7 = M 30 7 := by rw [i2 _ _ (by omega), n6 _ _ (by omega) (by omega) (by omega)]
    have mp : N' 30 10 = M 30 10 := by rw [i2 _ _ (by omega), n6 _ _ (by omega) (by omega) (by omega)]
    refine ⟨zup N' 51 4 (M 30 7), ?_, fun x y h1 h2 h3 => ?_, fun h => absurd h hne, fun _ => ⟨zup_e (by omega), fun h h0 h1 => ?_⟩⟩
    · rw [if_neg hne]
      generalize sLeast (zvS M 37) (zvG M 30) q = L at *
      simp (disch := first | assumption | exact zrm0 | exact zrm1 _ | exact zrm2 _ _ | exact zrm3 _ _ _ | exact zrm4 _ _ _ _ | omega) only [m27, ↓k_dp, ↓k_dn, k_dp, k_dn, k_dT, k_dF, k_ip, k_in, if_true, if_false, ne_eq, not_true_eq_false, not_false_eq_true, Int.reduceAdd, zup_a, zup_e, zup_j, z32_id, k_al0, k_il1, k_v2r, k_ifne, k_ic, k_ri, k_gR, k_v4r, k_is2, k_il2, k_icne, k_v5, k_gI, k_pI, k_imul, zb0_some, zb1_some, e27_0, e27_1, e27_2, e27_5, e27_8, e27_9, e27_10, e27_11, e27_14, e27_15, e27_18, e27_19, e27_22, e27_23, e27_26, e27_27, e27_28, e27_29, e27_32, e27_33, e27_34, e27_35, e27_38, e27_39, e27_42, e27_43, e27_46, e27_47, e27_48, e27_51, e27_54, e27_57, e27_58, e27_61, e27_62, e27_65, e27_68, e27_71, e27_72, e27_73, e27_76, e27_79, e27_80, c_isQuestion, if_pos c, n1, hsh, m7, mp]
    · have : zup N' 51 4 (M 30 7) x y = N' x y := by unfold zup; rw [if_neg (fun z => h3 ⟨z.1, z.2.1⟩)]
      rw [this, i2 x y h2, n6 x y (by omega) (by omega) (by omega)]
    · rw [zup_a (by omega), i4 h h0 h1]
      unfold sShare
      rw [e7]
theorem m251 (ph : Bool) (d : Nat) (a x0 p0 y0 p1 y1 : Int) (M : zM) : zEm ph (d + 1) 251 [(30, a, x0), (0, p0, y0), (0, p1, y1)] M = zEv ph d 251 0 [(30, a, x0), (0, p0, y0), (0, p1, y1)] [] M := rfl
theorem e251_0 (ph : Bool) (d : Nat) (L st : List zV) (M : zM) : zEv ph d 251 0 L st M = zcont ph d 251 (zstep ph (zEm ph d) 4 1 0 [0] L st M) := zEv_step rfl
theorem e251_1 (ph : Bool) (d : Nat) (L st : List zV) (M : zM) : zEv ph d 251 1 L st M = zcont ph d 251 (zstep ph (zEm ph d) 62 4 0 [30, 14, 2, 10, 368] L st M) := zEv_step rfl
theorem e251_4 (ph : Bool) (d : Nat) (L st : List zV) (M : zM) : zEv ph d 251 4 L st M = zcont ph d 251 (zstep ph (zEm ph d) 0 6 0 [101] L st M) := zEv_step rfl
theorem e251_6 (ph : Bool) (d : Nat) (L st : List zV) (M : zM) : zEv ph d 251 6 L st M = zcont ph d 251 (zstep ph (zEm ph d) 2 7 0 [2] L st M) := zEv_step rfl
theorem e251_7 (ph : Bool) (d : Nat) (L st : List zV) (M : zM) : zEv ph d 251 7 L st M = zcont ph d 251 (zstep ph (zEm ph d) 10 8 0 [] L st M) := zEv_step rfl
theorem e251_8 (ph : Bool) (d : Nat) (L st : List zV) (M : zM) : zEv ph d 251 8 L st M = zcont ph d 251 (zstep ph (zEm ph d) 85 9 0 [] L st M) := zEv_step rfl
theorem e251_9 (ph : Bool) (d : Nat) (L st : List zV) (M : zM) : zEv ph d 251 9 L st M = zcont ph d 251 (zstep ph (zEm ph d) 4 10 0 [0] L st M) := zEv_step rfl
theorem e251_10 (ph : Bool) (d : Nat) (L st : List zV) (M : zM) : zEv ph d 251 10 L st M = zcont ph d 251 (zstep ph (zEm ph d) 62 13 0 [30, 14, 2, 10, 368] L st M) := zEv_step rfl
theorem e251_13 (ph : Bool) (d : Nat) (L st : List zV) (M : zM) : zEv ph d 251 13 L st M = zcont ph d 251 (zstep ph (zEm ph d) 0 15 0 [77] L st M) := zEv_step rfl
theorem e251_15 (ph : Bool) (d : Nat) (L st : List zV) (M : zM) : zEv ph d 251 15 L st M = zcont ph d 251 (zstep ph (zEm ph d) 85 16 0 [] L st M) := zEv_step rfl
theorem e251_16 (ph : Bool) (d : Nat) (L st : List zV) (M : zM) : zEv ph d 251 16 L st M = zcont ph d 251 (zstep ph (zEm ph d) 0 17 0 [-1] L st M) := zEv_step rfl
theorem e251_17 (ph : Bool) (d : Nat) (L st : List zV) (M : zM) : zEv ph d 251 17 L st M = zcont ph d 251 (zstep ph (zEm ph d) 18 18 0 [] L st M) := zEv_step rfl
theorem e251_18 (ph : Bool) (d : Nat) (L st : List zV) (M : zM) : zEv ph d 251 18 L st M = zcont ph d 251 (zstep ph (zEm ph d) 16 19 0 [] L st M) := zEv_step rfl
theorem e251_19 (ph : Bool) (d : Nat) (L st : List zV) (M : zM) : zEv ph d 251 19 L st M = zcont ph d 251 (zstep ph (zEm ph d) 2 20 0 [1] L st M) := zEv_step rfl
theorem e251_20 (ph : Bool) (d : Nat) (L st : List zV) (M : zM) : zEv ph d 251 20 L st M = zcont ph d 251 (zstep ph (zEm ph d) 70 23 169 [2, 1, -1] L st M) := zEv_step rfl
theorem e251_23 (ph : Bool) (d : Nat) (L st : List zV) (M : zM) : zEv ph d 251 23 L st M = zcont ph d 251 (zstep ph (zEm ph d) 41 26 28 [] L st M) := zEv_step rfl
theorem e251_26 (ph : Bool) (d : Nat) (L st : List zV) (M : zM) : zEv ph d 251 26 L st M = zcont ph d 251 (zstep ph (zEm ph d) 0 27 0 [0] L st M) := zEv_step rfl
theorem e251_27 (ph : Bool) (d : Nat) (L st : List zV) (M : zM) : zEv ph d 251 27 L st M = zcont ph d 251 (zstep ph (zEm ph d) 80 28 0 [] L st M) := zEv_step rfl
theorem e251_28 (ph : Bool) (d : Nat) (L st : List zV) (M : zM) : zEv ph d 251 28 L st M = zcont ph d 251 (zstep ph (zEm ph d) 0 30 0 [20] L st M) := zEv_step rfl
theorem e251_30 (ph : Bool) (d : Nat) (L st : List zV) (M : zM) : zEv ph d 251 30 L st M = zcont ph d 251 (zstep ph (zEm ph d) 4 31 0 [0] L st M) := zEv_step rfl
theorem e251_31 (ph : Bool) (d : Nat) (L st : List zV) (M : zM) : zEv ph d 251 31 L st M = zcont ph d 251 (zstep ph (zEm ph d) 62 34 0 [30, 14, 2, 10, 368] L st M) := zEv_step rfl
theorem e251_34 (ph : Bool) (d : Nat) (L st : List zV) (M : zM) : zEv ph d 251 34 L st M = zcont ph d 251 (zstep ph (zEm ph d) 0 36 0 [81] L st M) := zEv_step rfl
theorem e251_36 (ph : Bool) (d : Nat) (L st : List zV) (M : zM) : zEv ph d 251 36 L st M = zcont ph d 251 (zstep ph (zEm ph d) 2 37 0 [1] L st M) := zEv_step rfl
theorem e251_37 (ph : Bool) (d : Nat) (L st : List zV) (M : zM) : zEv ph d 251 37 L st M = zcont ph d 251 (zstep ph (zEm ph d) 10 38 0 [] L st M) := zEv_step rfl
theorem e251_38 (ph : Bool) (d : Nat) (L st : List zV) (M : zM) : zEv ph d 251 38 L st M = zcont ph d 251 (zstep ph (zEm ph d) 85 39 0 [] L st M) := zEv_step rfl
theorem e251_39 (ph : Bool) (d : Nat) (L st : List zV) (M : zM) : zEv ph d 251 39 L st M = zcont ph d 251 (zstep ph (zEm ph d) 11 40 0 [] L st M) := zEv_step rfl
theorem e251_40 (ph : Bool) (d : Nat) (L st : List zV) (M : zM) : zEv ph d 251 40 L st M = zcont ph d 251 (zstep ph (zEm ph d) 4 41 0 [0] L st M) := zEv_step rfl
theorem e251_41 (ph : Bool) (d : Nat) (L st : List zV) (M : zM) : zEv ph d 251 41 L st M = zcont ph d 251 (zstep ph (zEm ph d) 62 44 0 [30, 14, 2, 10, 368] L st M) := zEv_step rfl
theorem e251_44 (ph : Bool) (d : Nat) (L st : List zV) (M : zM) : zEv ph d 251 44 L st M = zcont ph d 251 (zstep ph (zEm ph d) 0 46 0 [91] L st M) := zEv_step rfl
theorem e251_46 (ph : Bool) (d : Nat) (L st : List zV) (M : zM) : zEv ph d 251 46 L st M = zcont ph d 251 (zstep ph (zEm ph d) 2 47 0 [1] L st M) := zEv_step rfl
theorem e251_47 (ph : Bool) (d : Nat) (L st : List zV) (M : zM) : zEv ph d 251 47 L st M = zcont ph d 251 (zstep ph (zEm ph d) 10 48 0 [] L st M) := zEv_step rfl
theorem e251_48 (ph : Bool) (d : Nat) (L st : List zV) (M : zM) : zEv ph d 251 48 L st M = zcont ph d 251 (zstep ph (zEm ph d) 85 49 0 [] L st M) := zEv_step rfl
theorem e251_49 (ph : Bool) (d : Nat) (L st : List zV) (M : zM) : zEv ph d 251 49 L st M = zcont ph d 251 (zstep ph (zEm ph d) 4 50 0 [0] L st M) := zEv_step rfl
theorem e251_50 (ph : Bool) (d : Nat) (L st : List zV) (M : zM) : zEv ph d 251 50 L st M = zcont ph d 251 (zstep ph (zEm ph d) 62 53 0 [30, 14, 2, 10, 368] L st M) := zEv_step rfl
theorem e251_53 (ph : Bool) (d : Nat) (L st : List zV) (M : zM) : zEv ph d 251 53 L st M = zcont ph d 251 (zstep ph (zEm ph d) 0 54 0 [3] L st M) := zEv_step rfl
theorem e251_54 (ph : Bool) (d : Nat) (L st : List zV) (M : zM) : zEv ph d 251 54 L st M = zcont ph d 251 (zstep ph (zEm ph d) 85 55 0 [] L st M) := zEv_step rfl
theorem e251_55 (ph : Bool) (d : Nat) (L st : List zV) (M : zM) : zEv ph d 251 55 L st M = zcont ph d 251 (zstep ph (zEm ph d) 13 56 0 [] L st M) := zEv_step rfl
theorem e251_56 (ph : Bool) (d : Nat) (L st : List zV) (M : zM) : zEv ph d 251 56 L st M = zcont ph d 251 (zstep ph (zEm ph d) 70 59 171 [2, 1, -1] L st M) := zEv_step rfl
theorem e251_59 (ph : Bool) (d : Nat) (L st : List zV) (M : zM) : zEv ph d 251 59 L st M = zcont ph d 251 (zstep ph (zEm ph d) 80 60 0 [] L st M) := zEv_step rfl
theorem m252 (ph : Bool) (d : Nat) (a x0 p0 y0 p1 y1 p2 y2 : Int) (M : zM) : zEm ph (d + 1) 252 [(30, a, x0), (0, p0, y0), (0, p1, y1), (0, p2, y2)] M = zEv ph d 252 0 [(30, a, x0), (0, p0, y0), (0, p1, y1), (0, p2, y2)] [] M := rfl
theorem e252_0 (ph : Bool) (d : Nat) (L st : List zV) (M : zM) : zEv ph d 252 0 L st M = zcont ph d 252 (zstep ph (zEm ph d) 4 1 0 [0] L st M) := zEv_step rfl
theorem e252_1 (ph : Bool) (d : Nat) (L st : List zV) (M : zM) : zEv ph d 252 1 L st M = zcont ph d 252 (zstep ph (zEm ph d) 62 4 0 [30, 14, 2, 10, 368] L st M) := zEv_step rfl
theorem e252_4 (ph : Bool) (d : Nat) (L st : List zV) (M : zM) : zEv ph d 252 4 L st M = zcont ph d 252 (zstep ph (zEm ph d) 0 6 0 [101] L st M) := zEv_step rfl
theorem e252_6 (ph : Bool) (d : Nat) (L st : List zV) (M : zM) : zEv ph d 252 6 L st M = zcont ph d 252 (zstep ph (zEm ph d) 2 7 0 [2] L st M) := zEv_step rfl
theorem e252_7 (ph : Bool) (d : Nat) (L st : List zV) (M : zM) : zEv ph d 252 7 L st M = zcont ph d 252 (zstep ph (zEm ph d) 10 8 0 [] L st M) := zEv_step rfl
theorem e252_8 (ph : Bool) (d : Nat) (L st : List zV) (M : zM) : zEv ph d 252 8 L st M = zcont ph d 252 (zstep ph (zEm ph d) 85 9 0 [] L st M) := zEv_step rfl
theorem e252_9 (ph : Bool) (d : Nat) (L st : List zV) (M : zM) : zEv ph d 252 9 L st M = zcont ph d 252 (zstep ph (zEm ph d) 2 10 0 [1] L st M) := zEv_step rfl
theorem e252_10 (ph : Bool) (d : Nat) (L st : List zV) (M : zM) : zEv ph d 252 10 L st M = zcont ph d 252 (zstep ph (zEm ph d) 70 13 169 [2, 1, -1] L st M) := zEv_step rfl
theorem e252_13 (ph : Bool) (d : Nat) (L st : List zV) (M : zM) : zEv ph d 252 13 L st M = zcont ph d 252 (zstep ph (zEm ph d) 40 16 36 [] L st M) := zEv_step rfl
theorem e252_16 (ph : Bool) (d : Nat) (L st : List zV) (M : zM) : zEv ph d 252 16 L st M = zcont ph d 252 (zstep ph (zEm ph d) 4 17 0 [0] L st M) := zEv_step rfl
theorem e252_17 (ph : Bool) (d : Nat) (L st : List zV) (M : zM) : zEv ph d 252 17 L st M = zcont ph d 252 (zstep ph (zEm ph d) 2 18 0 [1] L st M) := zEv_step rfl
theorem e252_18 (ph : Bool) (d : Nat) (L st : List zV) (M : zM) : zEv ph d 252 18 L st M = zcont ph d 252 (zstep ph (zEm ph d) 0 19 0 [0] L st M) := zEv_step rfl
theorem e252_19 (ph : Bool) (d : Nat) (L st : List zV) (M : zM) : zEv ph d 252 19 L st M = zcont ph d 252 (zstep ph (zEm ph d) 4 20 0 [0] L st M) := zEv_step rfl
theorem e252_20 (ph : Bool) (d : Nat) (L st : List zV) (M : zM) : zEv ph d 252 20 L st M = zcont ph d 252 (zstep ph (zEm ph d) 62 23 0 [30, 14, 2, 10, 368] L st M) := zEv_step rfl
theorem e252_23 (ph : Bool) (d : Nat) (L st : List zV) (M : zM) : zEv ph d 252 23 L st M = zcont ph d 252 (zstep ph (zEm ph d) 0 25 0 [81] L st M) := zEv_step rfl
theorem e252_25 (ph : Bool) (d : Nat) (L st : List zV) (M : zM) : zEv ph d 252 25 L st M = zcont ph d 252 (zstep ph (zEm ph d) 2 26 0 [1] L st M) := zEv_step rfl
theorem e252_26 (ph : Bool) (d : Nat) (L st : List zV) (M : zM) : zEv ph d 252 26 L st M = zcont ph d 252 (zstep ph (zEm ph d) 10 27 0 [] L st M) := zEv_step rfl
theorem e252_27 (ph : Bool) (d : Nat) (L st : List zV) (M : zM) : zEv ph d 252 27 L st M = zcont ph d 252 (zstep ph (zEm ph d) 85 28 0 [] L st M) := zEv_step rfl
theorem e252_28 (ph : Bool) (d : Nat) (L st : List zV) (M : zM) : zEv ph d 252 28 L st M = zcont ph d 252 (zstep ph (zEm ph d) 2 29 0 [3] L st M) := zEv_step rfl
theorem e252_29 (ph : Bool) (d : Nat) (L st : List zV) (M : zM) : zEv ph d 252 29 L st M = zcont ph d 252 (zstep ph (zEm ph d) 10 30 0 [] L st M) := zEv_step rfl
theorem e252_30 (ph : Bool) (d : Nat) (L st : List zV) (M : zM) : zEv ph d 252 30 L st M = zcont ph d 252 (zstep ph (zEm ph d) 70 33 209 [4, 1, 30] L st M) := zEv_step rfl
theorem e252_33 (ph : Bool) (d : Nat) (L st : List zV) (M : zM) : zEv ph d 252 33 L st M = zcont ph d 252 (zstep ph (zEm ph d) 52 36 37 [] L st M) := zEv_step rfl
theorem e252_36 (ph : Bool) (d : Nat) (L st : List zV) (M : zM) : zEv ph d 252 36 L st M = zcont ph d 252 (zstep ph (zEm ph d) 0 37 0 [0] L st M) := zEv_step rfl
theorem e252_37 (ph : Bool) (d : Nat) (L st : List zV) (M : zM) : zEv ph d 252 37 L st M = zcont ph d 252 (zstep ph (zEm ph d) 80 38 0 [] L st M) := zEv_step rfl
theorem m253 (ph : Bool) (d : Nat) (a x0 p0 y0 : Int) (M : zM) : zEm ph (d + 1) 253 [(30, a, x0), (0, p0, y0)] M = zEv ph d 253 0 [(30, a, x0), (0, p0, y0), (3, 0, 0), (3, 0, 0), (3, 0, 0), (3, 0, 0), (3, 0, 0), (3, 0, 0), (3, 0, 0)] [] M := rfl
theorem e253_0 (ph : Bool) (d : Nat) (L st : List zV) (M : zM) : zEv ph d 253 0 L st M = zcont ph d 253 (zstep ph (zEm ph d) 4 1 0 [0] L st M) := zEv_step rfl
theorem e253_1 (ph : Bool) (d : Nat) (L st : List zV) (M : zM) : zEv ph d 253 1 L st M = zcont ph d 253 (zstep ph (zEm ph d) 62 4 0 [30, 14, 2, 10, 368] L st M) := zEv_step rfl
theorem e253_4 (ph : Bool) (d : Nat) (L st : List zV) (M : zM) : zEv ph d 253 4 L st M = zcont ph d 253 (zstep ph (zEm ph d) 0 5 0 [1] L st M) := zEv_step rfl
theorem e253_5 (ph : Bool) (d : Nat) (L st : List zV) (M : zM) : zEv ph d 253 5 L st M = zcont ph d 253 (zstep ph (zEm ph d) 85 6 0 [] L st M) := zEv_step rfl
theorem e253_6 (ph : Bool) (d : Nat) (L st : List zV) (M : zM) : zEv ph d 253 6 L st M = zcont ph d 253 (zstep ph (zEm ph d) 5 7 0 [2] L st M) := zEv_step rfl
theorem e253_7 (ph : Bool) (d : Nat) (L st : List zV) (M : zM) : zEv ph d 253 7 L st M = zcont ph d 253 (zstep ph (zEm ph d) 0 8 0 [0] L st M) := zEv_step rfl
theorem e253_8 (ph : Bool) (d : Nat) (L st : List zV) (M : zM) : zEv ph d 253 8 L st M = zcont ph d 253 (zstep ph (zEm ph d) 5 9 0 [3] L st M) := zEv_step rfl
theorem e253_9 (ph : Bool) (d : Nat) (L st : List zV) (M : zM) : zEv ph d 253 9 L st M = zcont ph d 253 (zstep ph (zEm ph d) 2 10 0 [3] L st M) := zEv_step rfl
theorem e253_10 (ph : Bool) (d : Nat) (L st : List zV) (M : zM) : zEv ph d 253 10 L st M = zcont ph d 253 (zstep ph (zEm ph d) 0 13 0 [200] L st M) := zEv_step rfl
theorem e253_13 (ph : Bool) (d : Nat) (L st : List zV) (M : zM) : zEv ph d 253 13 L st M = zcont ph d 253 (zstep ph (zEm ph d) 50 16 45 [] L st M) := zEv_step rfl
theorem e253_16 (ph : Bool) (d : Nat) (L st : List zV) (M : zM) : zEv ph d 253 16 L st M = zcont ph d 253 (zstep ph (zEm ph d) 4 17 0 [0] L st M) := zEv_step rfl
theorem e253_17 (ph : Bool) (d : Nat) (L st : List zV) (M : zM) : zEv ph d 253 17 L st M = zcont ph d 253 (zstep ph (zEm ph d) 62 20 0 [30, 27, 12, 10, 2211] L st M) := zEv_step rfl
theorem e253_20 (ph : Bool) (d : Nat) (L st : List zV) (M : zM) : zEv ph d 253 20 L st M = zcont ph d 253 (zstep ph (zEm ph d) 0 23 0 [201] L st M) := zEv_step rfl
theorem e253_23 (ph : Bool) (d : Nat) (L st : List zV) (M : zM) : zEv ph d 253 23 L st M = zcont ph d 253 (zstep ph (zEm ph d) 2 24 0 [2] L st M) := zEv_step rfl
theorem e253_24 (ph : Bool) (d : Nat) (L st : List zV) (M : zM) : zEv ph d 253 24 L st M = zcont ph d 253 (zstep ph (zEm ph d) 12 25 0 [] L st M) := zEv_step rfl
theorem e253_25 (ph : Bool) (d : Nat) (L st : List zV) (M : zM) : zEv ph d 253 25 L st M = zcont ph d 253 (zstep ph (zEm ph d) 2 26 0 [3] L st M) := zEv_step rfl
theorem e253_26 (ph : Bool) (d : Nat) (L st : List zV) (M : zM) : zEv ph d 253 26 L st M = zcont ph d 253 (zstep ph (zEm ph d) 10 27 0 [] L st M) := zEv_step rfl
theorem e253_27 (ph : Bool) (d : Nat) (L st : List zV) (M : zM) : zEv ph d 253 27 L st M = zcont ph d 253 (zstep ph (zEm ph d) 2 28 0 [3] L st M) := zEv_step rfl
theorem e253_28 (ph : Bool) (d : Nat) (L st : List zV) (M : zM) : zEv ph d 253 28 L st M = zcont ph d 253 (zstep ph (zEm ph d) 41 31 35 [] L st M) := zEv_step rfl
theorem e253_31 (ph : Bool) (d : Nat) (L st : List zV) (M : zM) : zEv ph d 253 31 L st M = zcont ph d 253 (zstep ph (zEm ph d) 0 32 0 [0] L st M) := zEv_step rfl
theorem e253_32 (ph : Bool) (d : Nat) (L st : List zV) (M : zM) : zEv ph d 253 32 L st M = zcont ph d 253 (zstep ph (zEm ph d) 52 35 38 [] L st M) := zEv_step rfl
theorem e253_35 (ph : Bool) (d : Nat) (L st : List zV) (M : zM) : zEv ph d 253 35 L st M = zcont ph d 253 (zstep ph (zEm ph d) 0 38 0 [-1000000] L st M) := zEv_step rfl
theorem e253_38 (ph : Bool) (d : Nat) (L st : List zV) (M : zM) : zEv ph d 253 38 L st M = zcont ph d 253 (zstep ph (zEm ph d) 89 39 0 [] L st M) := zEv_step rfl
theorem e253_39 (ph : Bool) (d : Nat) (L st : List zV) (M : zM) : zEv ph d 253 39 L st M = zcont ph d 253 (zstep ph (zEm ph d) 8 42 0 [3, 1] L st M) := zEv_step rfl
theorem e253_42 (ph : Bool) (d : Nat) (L st : List zV) (M : zM) : zEv ph d 253 42 L st M = zcont ph d 253 (zstep ph (zEm ph d) 52 45 9 [] L st M) := zEv_step rfl
theorem e253_45 (ph : Bool) (d : Nat) (L st : List zV) (M : zM) : zEv ph d 253 45 L st M = zcont ph d 253 (zstep ph (zEm ph d) 2 46 0 [2] L st M) := zEv_step rfl
theorem e253_46 (ph : Bool) (d : Nat) (L st : List zV) (M : zM) : zEv ph d 253 46 L st M = zcont ph d 253 (zstep ph (zEm ph d) 0 47 0 [1] L st M) := zEv_step rfl
theorem e253_47 (ph : Bool) (d : Nat) (L st : List zV) (M : zM) : zEv ph d 253 47 L st M = zcont ph d 253 (zstep ph (zEm ph d) 11 48 0 [] L st M) := zEv_step rfl
theorem e253_48 (ph : Bool) (d : Nat) (L st : List zV) (M : zM) : zEv ph d 253 48 L st M = zcont ph d 253 (zstep ph (zEm ph d) 5 49 0 [3] L st M) := zEv_step rfl
theorem e253_49 (ph : Bool) (d : Nat) (L st : List zV) (M : zM) : zEv ph d 253 49 L st M = zcont ph d 253 (zstep ph (zEm ph d) 2 50 0 [3] L st M) := zEv_step rfl
theorem e253_50 (ph : Bool) (d : Nat) (L st : List zV) (M : zM) : zEv ph d 253 50 L st M = zcont ph d 253 (zstep ph (zEm ph d) 42 53 165 [] L st M) := zEv_step rfl
theorem e253_53 (ph : Bool) (d : Nat) (L st : List zV) (M : zM) : zEv ph d 253 53 L st M = zcont ph d 253 (zstep ph (zEm ph d) 4 54 0 [0] L st M) := zEv_step rfl
theorem e253_54 (ph : Bool) (d : Nat) (L st : List zV) (M : zM) : zEv ph d 253 54 L st M = zcont ph d 253 (zstep ph (zEm ph d) 2 55 0 [3] L st M) := zEv_step rfl
theorem e253_55 (ph : Bool) (d : Nat) (L st : List zV) (M : zM) : zEv ph d 253 55 L st M = zcont ph d 253 (zstep ph (zEm ph d) 2 56 0 [1] L st M) := zEv_step rfl
theorem e253_56 (ph : Bool) (d : Nat) (L st : List zV) (M : zM) : zEv ph d 253 56 L st M = zcont ph d 253 (zstep ph (zEm ph d) 70 59 251 [3, 1, 30] L st M) := zEv_step rfl
theorem e253_59 (ph : Bool) (d : Nat) (L st : List zV) (M : zM) : zEv ph d 253 59 L st M = zcont ph d 253 (zstep ph (zEm ph d) 5 61 0 [4] L st M) := zEv_step rfl
theorem e253_61 (ph : Bool) (d : Nat) (L st : List zV) (M : zM) : zEv ph d 253 61 L st M = zcont ph d 253 (zstep ph (zEm ph d) 0 62 0 [0] L st M) := zEv_step rfl
theorem e253_62 (ph : Bool) (d : Nat) (L st : List zV) (M : zM) : zEv ph d 253 62 L st M = zcont ph d 253 (zstep ph (zEm ph d) 5 64 0 [5] L st M) := zEv_step rfl
theorem e253_64 (ph : Bool) (d : Nat) (L st : List zV) (M : zM) : zEv ph d 253 64 L st M = zcont ph d 253 (zstep ph (zEm ph d) 2 66 0 [5] L st M) := zEv_step rfl
theorem e253_66 (ph : Bool) (d : Nat) (L st : List zV) (M : zM) : zEv ph d 253 66 L st M = zcont ph d 253 (zstep ph (zEm ph d) 0 69 0 [200] L st M) := zEv_step rfl
theorem e253_69 (ph : Bool) (d : Nat) (L st : List zV) (M : zM) : zEv ph d 253 69 L st M = zcont ph d 253 (zstep ph (zEm ph d) 50 72 159 [] L st M) := zEv_step rfl
theorem e253_72 (ph : Bool) (d : Nat) (L st : List zV) (M : zM) : zEv ph d 253 72 L st M = zcont ph d 253 (zstep ph (zEm ph d) 0 75 0 [-1000000] L st M) := zEv_step rfl
theorem e253_75 (ph : Bool) (d : Nat) (L st : List zV) (M : zM) : zEv ph d 253 75 L st M = zcont ph d 253 (zstep ph (zEm ph d) 5 77 0 [6] L st M) := zEv_step rfl
theorem e253_77 (ph : Bool) (d : Nat) (L st : List zV) (M : zM) : zEv ph d 253 77 L st M = zcont ph d 253 (zstep ph (zEm ph d) 0 78 0 [0] L st M) := zEv_step rfl
theorem e253_78 (ph : Bool) (d : Nat) (L st : List zV) (M : zM) : zEv ph d 253 78 L st M = zcont ph d 253 (zstep ph (zEm ph d) 5 80 0 [7] L st M) := zEv_step rfl
theorem e253_80 (ph : Bool) (d : Nat) (L st : List zV) (M : zM) : zEv ph d 253 80 L st M = zcont ph d 253 (zstep ph (zEm ph d) 2 82 0 [7] L st M) := zEv_step rfl
theorem e253_82 (ph : Bool) (d : Nat) (L st : List zV) (M : zM) : zEv ph d 253 82 L st M = zcont ph d 253 (zstep ph (zEm ph d) 2 84 0 [4] L st M) := zEv_step rfl
theorem e253_84 (ph : Bool) (d : Nat) (L st : List zV) (M : zM) : zEv ph d 253 84 L st M = zcont ph d 253 (zstep ph (zEm ph d) 2 86 0 [5] L st M) := zEv_step rfl
theorem e253_86 (ph : Bool) (d : Nat) (L st : List zV) (M : zM) : zEv ph d 253 86 L st M = zcont ph d 253 (zstep ph (zEm ph d) 70 89 171 [2, 1, -1] L st M) := zEv_step rfl
theorem e253_89 (ph : Bool) (d : Nat) (L st : List zV) (M : zM) : zEv ph d 253 89 L st M = zcont ph d 253 (zstep ph (zEm ph d) 50 92 138 [] L st M) := zEv_step rfl
theorem e253_92 (ph : Bool) (d : Nat) (L st : List zV) (M : zM) : zEv ph d 253 92 L st M = zcont ph d 253 (zstep ph (zEm ph d) 4 93 0 [0] L st M) := zEv_step rfl
theorem e253_93 (ph : Bool) (d : Nat) (L st : List zV) (M : zM) : zEv ph d 253 93 L st M = zcont ph d 253 (zstep ph (zEm ph d) 2 94 0 [3] L st M) := zEv_step rfl
theorem e253_94 (ph : Bool) (d : Nat) (L st : List zV) (M : zM) : zEv ph d 253 94 L st M = zcont ph d 253 (zstep ph (zEm ph d) 2 95 0 [1] L st M) := zEv_step rfl
theorem e253_95 (ph : Bool) (d : Nat) (L st : List zV) (M : zM) : zEv ph d 253 95 L st M = zcont ph d 253 (zstep ph (zEm ph d) 2 97 0 [7] L st M) := zEv_step rfl
theorem e253_97 (ph : Bool) (d : Nat) (L st : List zV) (M : zM) : zEv ph d 253 97 L st M = zcont ph d 253 (zstep ph (zEm ph d) 70 100 252 [4, 1, 30] L st M) := zEv_step rfl
theorem e253_100 (ph : Bool) (d : Nat) (L st : List zV) (M : zM) : zEv ph d 253 100 L st M = zcont ph d 253 (zstep ph (zEm ph d) 4 101 0 [0] L st M) := zEv_step rfl
theorem e253_101 (ph : Bool) (d : Nat) (L st : List zV) (M : zM) : zEv ph d 253 101 L st M = zcont ph d 253 (zstep ph (zEm ph d) 62 104 0 [30, 27, 12, 10, 2211] L st M) := zEv_step rfl
theorem e253_104 (ph : Bool) (d : Nat) (L st : List zV) (M : zM) : zEv ph d 253 104 L st M = zcont ph d 253 (zstep ph (zEm ph d) 0 107 0 [201] L st M) := zEv_step rfl
theorem e253_107 (ph : Bool) (d : Nat) (L st : List zV) (M : zM) : zEv ph d 253 107 L st M = zcont ph d 253 (zstep ph (zEm ph d) 2 108 0 [3] L st M) := zEv_step rfl
theorem e253_108 (ph : Bool) (d : Nat) (L st : List zV) (M : zM) : zEv ph d 253 108 L st M = zcont ph d 253 (zstep ph (zEm ph d) 0 109 0 [1] L st M) := zEv_step rfl
theorem e253_109 (ph : Bool) (d : Nat) (L st : List zV) (M : zM) : zEv ph d 253 109 L st M = zcont ph d 253 (zstep ph (zEm ph d) 10 110 0 [] L st M) := zEv_step rfl
theorem e253_110 (ph : Bool) (d : Nat) (L st : List zV) (M : zM) : zEv ph d 253 110 L st M = zcont ph d 253 (zstep ph (zEm ph d) 12 111 0 [] L st M) := zEv_step rfl
theorem e253_111 (ph : Bool) (d : Nat) (L st : List zV) (M : zM) : zEv ph d 253 111 L st M = zcont ph d 253 (zstep ph (zEm ph d) 2 113 0 [5] L st M) := zEv_step rfl
theorem e253_113 (ph : Bool) (d : Nat) (L st : List zV) (M : zM) : zEv ph d 253 113 L st M = zcont ph d 253 (zstep ph (zEm ph d) 10 114 0 [] L st M) := zEv_step rfl
theorem e253_114 (ph : Bool) (d : Nat) (L st : List zV) (M : zM) : zEv ph d 253 114 L st M = zcont ph d 253 (zstep ph (zEm ph d) 2 116 0 [7] L st M) := zEv_step rfl
theorem e253_116 (ph : Bool) (d : Nat) (L st : List zV) (M : zM) : zEv ph d 253 116 L st M = zcont ph d 253 (zstep ph (zEm ph d) 11 117 0 [] L st M) := zEv_step rfl
theorem e253_117 (ph : Bool) (d : Nat) (L st : List zV) (M : zM) : zEv ph d 253 117 L st M = zcont ph d 253 (zstep ph (zEm ph d) 85 118 0 [] L st M) := zEv_step rfl
theorem e253_118 (ph : Bool) (d : Nat) (L st : List zV) (M : zM) : zEv ph d 253 118 L st M = zcont ph d 253 (zstep ph (zEm ph d) 10 119 0 [] L st M) := zEv_step rfl
theorem e253_119 (ph : Bool) (d : Nat) (L st : List zV) (M : zM) : zEv ph d 253 119 L st M = zcont ph d 253 (zstep ph (zEm ph d) 5 121 0 [8] L st M) := zEv_step rfl
theorem e253_121 (ph : Bool) (d : Nat) (L st : List zV) (M : zM) : zEv ph d 253 121 L st M = zcont ph d 253 (zstep ph (zEm ph d) 2 123 0 [8] L st M) := zEv_step rfl
theorem e253_123 (ph : Bool) (d : Nat) (L st : List zV) (M : zM) : zEv ph d 253 123 L st M = zcont ph d 253 (zstep ph (zEm ph d) 2 125 0 [6] L st M) := zEv_step rfl
theorem e253_125 (ph : Bool) (d : Nat) (L st : List zV) (M : zM) : zEv ph d 253 125 L st M = zcont ph d 253 (zstep ph (zEm ph d) 51 128 132 [] L st M) := zEv_step rfl
theorem e253_128 (ph : Bool) (d : Nat) (L st : List zV) (M : zM) : zEv ph d 253 128 L st M = zcont ph d 253 (zstep ph (zEm ph d) 2 130 0 [8] L st M) := zEv_step rfl
theorem e253_130 (ph : Bool) (d : Nat) (L st : List zV) (M : zM) : zEv ph d 253 130 L st M = zcont ph d 253 (zstep ph (zEm ph d) 5 132 0 [6] L st M) := zEv_step rfl
theorem e253_132 (ph : Bool) (d : Nat) (L st : List zV) (M : zM) : zEv ph d 253 132 L st M = zcont ph d 253 (zstep ph (zEm ph d) 8 135 0 [7, 1] L st M) := zEv_step rfl
theorem e253_135 (ph : Bool) (d : Nat) (L st : List zV) (M : zM) : zEv ph d 253 135 L st M = zcont ph d 253 (zstep ph (zEm ph d) 52 138 80 [] L st M) := zEv_step rfl
theorem e253_138 (ph : Bool) (d : Nat) (L st : List zV) (M : zM) : zEv ph d 253 138 L st M = zcont ph d 253 (zstep ph (zEm ph d) 4 139 0 [0] L st M) := zEv_step rfl
theorem e253_139 (ph : Bool) (d : Nat) (L st : List zV) (M : zM) : zEv ph d 253 139 L st M = zcont ph d 253 (zstep ph (zEm ph d) 62 142 0 [30, 27, 12, 10, 2211] L st M) := zEv_step rfl
theorem e253_142 (ph : Bool) (d : Nat) (L st : List zV) (M : zM) : zEv ph d 253 142 L st M = zcont ph d 253 (zstep ph (zEm ph d) 0 145 0 [201] L st M) := zEv_step rfl
theorem e253_145 (ph : Bool) (d : Nat) (L st : List zV) (M : zM) : zEv ph d 253 145 L st M = zcont ph d 253 (zstep ph (zEm ph d) 2 146 0 [3] L st M) := zEv_step rfl
theorem e253_146 (ph : Bool) (d : Nat) (L st : List zV) (M : zM) : zEv ph d 253 146 L st M = zcont ph d 253 (zstep ph (zEm ph d) 12 147 0 [] L st M) := zEv_step rfl
theorem e253_147 (ph : Bool) (d : Nat) (L st : List zV) (M : zM) : zEv ph d 253 147 L st M = zcont ph d 253 (zstep ph (zEm ph d) 2 149 0 [5] L st M) := zEv_step rfl
theorem e253_149 (ph : Bool) (d : Nat) (L st : List zV) (M : zM) : zEv ph d 253 149 L st M = zcont ph d 253 (zstep ph (zEm ph d) 10 150 0 [] L st M) := zEv_step rfl
theorem e253_150 (ph : Bool) (d : Nat) (L st : List zV) (M : zM) : zEv ph d 253 150 L st M = zcont ph d 253 (zstep ph (zEm ph d) 2 152 0 [6] L st M) := zEv_step rfl
theorem e253_152 (ph : Bool) (d : Nat) (L st : List zV) (M : zM) : zEv ph d 253 152 L st M = zcont ph d 253 (zstep ph (zEm ph d) 89 153 0 [] L st M) := zEv_step rfl
theorem e253_153 (ph : Bool) (d : Nat) (L st : List zV) (M : zM) : zEv ph d 253 153 L st M = zcont ph d 253 (zstep ph (zEm ph d) 8 156 0 [5, 1] L st M) := zEv_step rfl
theorem e253_156 (ph : Bool) (d : Nat) (L st : List zV) (M : zM) : zEv ph d 253 156 L st M = zcont ph d 253 (zstep ph (zEm ph d) 52 159 64 [] L st M) := zEv_step rfl
theorem e253_159 (ph : Bool) (d : Nat) (L st : List zV) (M : zM) : zEv ph d 253 159 L st M = zcont ph d 253 (zstep ph (zEm ph d) 8 162 0 [3, -1] L st M) := zEv_step rfl
theorem e253_162 (ph : Bool) (d : Nat) (L st : List zV) (M : zM) : zEv ph d 253 162 L st M = zcont ph d 253 (zstep ph (zEm ph d) 52 165 49 [] L st M) := zEv_step rfl
theorem e253_165 (ph : Bool) (d : Nat) (L st : List zV) (M : zM) : zEv ph d 253 165 L st M = zcont ph d 253 (zstep ph (zEm ph d) 83 166 0 [] L st M) := zEv_step rfl
theorem r_canBuy (d : Nat) (z0 h y q y2 : Int) (M : zM) (hS : okS (zrS M)) (hG : okG (zrG M)) (h0 : 0 ≤ h) (h1 : h < M 199 1) (q0 : 0 ≤ q) (q1 : q < 5) : zEm true (d + 2) 251 [(30, 197, z0), (0, h, y), (0, q, y2)] M = some ((0, rB (zrS M) (zrG M) q h, 0), M) := by
  obtain ⟨⟨g6, g6'⟩, ⟨g1, g2⟩, -, -, ⟨gp, gp'⟩, -⟩ := okR_M hG
  have h10 : h < 10 := by omega
  have e1 : zrS M 1 h = M 199 (81 + h) := zrS_1 h0 h10
  have e2 : zrS M 2 h = M 199 (91 + h) := zrS_2 h0 h10
  have e3 : zrS M 3 q = M 199 (101 + q) := zrS_3 q0 q1
  have b1 := hS.2.2.2.1 h h0 h10
  have b2 := hS.2.2.2.2.1 h h0 h10
  rw [e1] at b1
  rw [e2] at b2
  have h3 := tdiv_bd b2.1 b2.2 gp
  have hz : zbit (zand (M 199 (101 + q)) (zxor (M 199 77) (-1))) h ≠ 0 ↔ zbit (M 199 (101 + q)) h ≠ 0 ∧ zbit (M 199 77) h = 0 := by rw [zbit_and h0 h10, zbit_not h0 h10]
  unfold rB
  rw [e1, e2, e3, zrS_08, zrG_07, zrG_0t]
  by_cases c : zbit (zand (M 199 (101 + q)) (zxor (M 199 77) (-1))) h = 0
  · rw [if_neg (fun z => (hz.mpr z.2) c)]
    simp (disch := first | assumption | exact zrm0 | exact zrm1 _ | exact zrm2 _ _ | exact zrm3 _ _ _ | exact zrm4 _ _ _ _ | omega) only [m251, ↓k_dp, ↓k_dn, k_dp, k_dn, k_dT, k_dF, k_ip, k_in, if_true, if_false, ne_eq, not_true_eq_false, not_false_eq_true, Int.reduceAdd, zup_a, zup_e, zup_j, z32_id, k_al0, k_gR, k_ic, k_il2, k_iadd, k_ild, k_ildS, k_ildW, k_ixor, k_iand, k_il1, k_s2r, k_ifne, k_ri, k_isub, k_idiv, zb0_some, zb1_some, e251_0, e251_1, e251_4, e251_6, e251_7, e251_8, e251_9, e251_10, e251_13, e251_15, e251_16, e251_17, e251_18, e251_19, e251_20, e251_23, e251_26, e251_27, e251_28, e251_30, e251_31, e251_34, e251_36, e251_37, e251_38, e251_39, e251_40, e251_41, e251_44, e251_46, e251_47, e251_48, e251_49, e251_50, e251_53, e251_54, e251_55, e251_56, e251_59, r_has, c]
  · have c2 := hz.mp c
    rw [if_pos ⟨⟨h0, h1⟩, c2.1, c2.2⟩]
    have hs : sMin (Int.tdiv (M 199 (91 + h)) (M 199 3)) (20 - M 199 (81 + h)) = sMin (20 - M 199 (81 + h)) (Int.tdiv (M 199 (91 + h)) (M 199 3)) := by unfold sMin; split <;> split <;> omega
    rw [hs]
    simp (disch := first | assumption | exact zrm0 | exact zrm1 _ | exact zrm2 _ _ | exact zrm3 _ _ _ | exact zrm4 _ _ _ _ | omega) only [m251, ↓k_dp, ↓k_dn, k_dp, k_dn, k_dT, k_dF, k_ip, k_in, if_true, if_false, ne_eq, not_true_eq_false, not_false_eq_true, Int.reduceAdd, zup_a, zup_e, zup_j, z32_id, k_al0, k_gR, k_ic, k_il2, k_iadd, k_ild, k_ildS, k_ildW, k_ixor, k_iand, k_il1, k_s2r, k_ifne, k_ri, k_isub, k_idiv, zb0_some, zb1_some, e251_0, e251_1, e251_4, e251_6, e251_7, e251_8, e251_9, e251_10, e251_13, e251_15, e251_16, e251_17, e251_18, e251_19, e251_20, e251_23, e251_26, e251_27, e251_28, e251_30, e251_31, e251_34, e251_36, e251_37, e251_38, e251_39, e251_40, e251_41, e251_44, e251_46, e251_47, e251_48, e251_49, e251_50, e251_53, e251_54, e251_55, e251_56, e251_59, r_has, c, r_least]
theorem r_gets (d : Nat) (z0 h y q y2 k y3 : Int) (M : zM) (hS : okS (zrS M)) (hG : okG (zrG M)) (h0 : 0 ≤ h) (h1 : h < M 199 1) (q0 : 0 ≤ q) (q1 : q < 5) (k0 : 0 ≤ k) (k1 : k ≤ rB (zrS M) (zrG M) q h) : zEm true (d + 3) 252 [(30, 197, z0), (0, h, y), (0, q, y2), (0, k, y3)] M = some ((0, gB (zrS M) (zrG M) q h k, 0), M) := by
  obtain ⟨⟨g6, g6'⟩, ⟨g1, g2⟩, -⟩ := okR_M hG
  have h10 : h < 10 := by omega
  have e1 : zrS M 1 h = M 199 (81 + h) := zrS_1 h0 h10
  have e3 : zrS M 3 q = M 199 (101 + q) := zrS_3 q0 q1
  have b1 := hS.2.2.2.1 h h0 h10
  have hr := (rB_bd (q := q) hS hG h).2.1
  rw [e1] at b1
  unfold gB
  rw [if_pos ⟨⟨h0, by rw [zrG_07]; exact h1⟩, k0, k1⟩, e3]
  unfold sHn
  rw [e1, z32_id (by omega) (by omega)]
  by_cases c : zbit (M 199 (101 + q)) h = 0
  · simp (disch := first | assumption | exact zrm0 | exact zrm1 _ | exact zrm2 _ _ | exact zrm3 _ _ _ | exact zrm4 _ _ _ _ | omega) only [m252, ↓k_dp, ↓k_dn, k_dp, k_dn, k_dT, k_dF, k_ip, k_in, if_true, if_false, ne_eq, not_true_eq_false, not_false_eq_true, Int.reduceAdd, zup_a, zup_e, zup_j, z32_id, k_al0, k_gR, k_ic, k_il2, k_iadd, k_ild, k_ildS, k_ildW, k_il1, k_s2r, k_ifeq, k_il3, k_v4r, k_goto, k_ri, zb0_some, zb1_some, e252_0, e252_1, e252_4, e252_6, e252_7, e252_8, e252_9, e252_10, e252_13, e252_16, e252_17, e252_18, e252_19, e252_20, e252_23, e252_25, e252_26, e252_27, e252_28, e252_29, e252_30, e252_33, e252_36, e252_37, r_has, c]
  · simp (disch := first | assumption | exact zrm0 | exact zrm1 _ | exact zrm2 _ _ | exact zrm3 _ _ _ | exact zrm4 _ _ _ _ | omega) only [m252, ↓k_dp, ↓k_dn, k_dp, k_dn, k_dT, k_dF, k_ip, k_in, if_true, if_false, ne_eq, not_true_eq_false, not_false_eq_true, Int.reduceAdd, zup_a, zup_e, zup_j, z32_id, k_al0, k_gR, k_ic, k_il2, k_iadd, k_ild, k_ildS, k_ildW, k_il1, k_s2r, k_ifeq, k_il3, k_v4r, k_goto, k_ri, zb0_some, zb1_some, e252_0, e252_1, e252_4, e252_6, e252_7, e252_8, e252_9, e252_10, e252_13, e252_16, e252_17, e252_18, e252_19, e252_20, e252_23, e252_25, e252_26, e252_27, e252_28, e252_29, e252_30, e252_33, e252_36, e252_37, r_has, c, r_noiseBy]
