/-! the fewest irons: the reference's rows -/
noncomputable abbrev zXf (M : zM) (q : Int) : Nat → Int → Int := dX (gB (zrS M) (zrG M) q) (rB (zrS M) (zrG M) q) (M 199 1)
def okX (M N : zM) : Prop := ∀ x y, x ≠ 209 → N x y = M x y
def okXR (M N : zM) (q : Int) (j : Nat) : Prop := ∀ (i : Nat) (n : Int), i ≤ j → 0 ≤ n → n ≤ 200 → N 209 (201 * (M 199 1 - i) + n) = zXf M q i n
theorem okX_up {M N : zM} {y v : Int} (h : okX M N) : okX M (zup N 209 y v) := fun a b h1 => by rw [zup_a h1]; exact h a b h1
theorem r_layK (d : Nat) (z0 q y h n : Int) (l8 : zV) (M N : zM) (j : Nat) (hS : okS (zrS M)) (hG : okG (zrG M)) (q0 : 0 ≤ q) (q1 : q < 5) (hX : okX M N) (h0 : 0 ≤ h) (h1 : h < M 199 1) (n0 : 0 ≤ n) (n1 : n ≤ 200) (hj : h = M 199 1 - (j + 1)) (hrow : ∀ a, 0 ≤ a → a ≤ 200 → N 209 (201 * (h + 1) + a) = zXf M q j a) : ∃ k' l8', zEv true (d + 4) 253 80 [(30, 197, z0), (0, q, y), (0, M 199 1, 0), (0, h, 0), (0, rB (zrS M) (zrG M) q h, 0), (0, n, 0), (0, -1000000, 0), (0, 0, 0), l8] [] N = zEv true (d + 4) 253 138 [(30, 197, z0), (0, q, y), (0, M 199 1, 0), (0, h, 0), (0, rB (zrS M) (zrG M) q h, 0), (0, n, 0), (0, zXf M q (j + 1) n, 0), (0, k', 0), l8'] [] N := by
  obtain ⟨⟨g6, g6'⟩, ⟨g1, g2⟩, -⟩ := okR_M hG
  have eS : zrS N = zrS M := zrS_eq (fun b _ _ _ => hX 199 b (by omega))
  have eG : zrG N = zrG M := zrG_eq (fun b _ _ => hX 199 b (by omega))
  have n199 : N 199 1 = M 199 1 := hX _ _ (by omega)
  have hr := rB_bd (q := q) hS hG
  have hg := gB_bd (q := q) hS hG
  have hrb := hr h
  obtain ⟨v, hv⟩ : ∃ v : Int → Int, v = fun k => gB (zrS M) (zrG M) q (M 199 1 - ((j : Int) + 1)) k + zXf M q j (n - k) := ⟨_, rfl⟩
  have hvk : ∀ k, v k = gB (zrS M) (zrG M) q h k + zXf M q j (n - k) := fun k => by rw [hv, hj]
  have hdX : zXf M q (j + 1) n = zmx v (dK (rB (zrS M) (zrG M) q h) n) (-1000000) := by rw [hv, hj]; rfl
  have hdk : ((dK (rB (zrS M) (zrG M) q h) n : Nat) : Int) = sMin (rB (zrS M) (zrG M) q h) n + 1 := by unfold dK sMin; split <;> omega
  have hl := zfor (α := Int × zV) (ph := true) (d := d + 4) (j := 253) (pc := 80) (fun k p => (sMax p.1 (v k), (0, v k, 0))) (fun k p => 0 ≤ k) (fun k p => [(30, 197, z0), (0, q, y), (0, M 199 1, 0), (0, h, 0), (0, rB (zrS M) (zrG M) q h, 0), (0, n, 0), (0, p.1, 0), (0, k, 0), p.2]) (fun _ => N) (dK (rB (zrS M) (zrG M) q h) n : Nat)
    (fun k p hk hp => by
      obtain ⟨b, l⟩ := p
      have hk2 := (dK_lt hrb.1 n0).mp hk
      have hgk := r_gets (d + 1) z0 h 0 q 0 k 0 N (by rw [eS]; exact hS) (by rw [eG]; exact hG) h0 (by rw [n199]; exact h1) q0 q1 hp (by rw [eS, eG]; exact hk2.1)
      rw [eS, eG] at hgk
      have bg := hg h k
      have bX := dX_bd (g := gB (zrS M) (zrG M) q) (r := rB (zrS M) (zrG M) q) (H := M 199 1) hg (fun h => (hr h).1) j (n - k) (by omega)
      have hrw := hrow (n - k) (by omega) (by omega)
      have ex : 201 * (h + 1) + n - k = 201 * (h + 1) + (n - k) := by omega
      have hmn : ¬ (sMin (rB (zrS M) (zrG M) q h) n < k) := by unfold sMin; split <;> omega
      refine ⟨?_, by omega⟩
      dsimp only
      rw [e253_80, hvk]
      unfold sMax
      unfold zXf at hrw ⊢
      generalize gB (zrS M) (zrG M) q h k = gg at hgk bg ⊢
      generalize dX (gB (zrS M) (zrG M) q) (rB (zrS M) (zrG M) q) (M 199 1) j (n - k) = dd at bX hrw ⊢
      have zz : z32 (gg + dd) = gg + dd := z32_id (by omega) (by omega)
      by_cases cb : b < gg + dd
      · rw [if_pos cb]
        simp (disch := first | assumption | exact zrm0 | exact zrm1 _ | exact zrm2 _ _ | exact zrm3 _ _ _ | exact zrm4 _ _ _ _ | omega) only [m253, ↓k_dp, ↓k_dn, k_dp, k_dn, k_dT, k_dF, k_ip, k_in, if_true, if_false, ne_eq, not_true_eq_false, not_false_eq_true, Int.reduceAdd, zup_a, zup_e, zup_j, z32_id, k_al0, k_gR, k_ic, k_ild, k_ildS, k_ildW, k_is2, k_is3, k_il3, k_icgt, k_il2, k_imul, k_iadd, k_ifne, k_goto, k_ist, k_inc3, k_isub, k_iflt, k_il1, k_v3r, k_is4, k_is5, k_il5, k_is6, k_is7, k_il7, k_il4, k_s2r, k_v4r, k_is8, k_il8, k_il6, k_icle, k_inc7, k_inc5, k_rv, zb0_some, zb1_some, e253_0, e253_1, e253_4, e253_5, e253_6, e253_7, e253_8, e253_9, e253_10, e253_13, e253_16, e253_17, e253_20, e253_23, e253_24, e253_25, e253_26, e253_27, e253_28, e253_31, e253_32, e253_35, e253_38, e253_39, e253_42, e253_45, e253_46, e253_47, e253_48, e253_49, e253_50, e253_53, e253_54, e253_55, e253_56, e253_59, e253_61, e253_62, e253_64, e253_66, e253_69, e253_72, e253_75, e253_77, e253_78, e253_82, e253_84, e253_86, e253_89, e253_92, e253_93, e253_94, e253_95, e253_97, e253_100, e253_101, e253_104, e253_107, e253_108, e253_109, e253_110, e253_111, e253_113, e253_114, e253_116, e253_117, e253_118, e253_119, e253_121, e253_123, e253_125, e253_128, e253_130, e253_132, e253_135, e253_138, e253_139, e253_142, e253_145, e253_146, e253_147, e253_149, e253_150, e253_152, e253_153, e253_156, e253_159, e253_162, e253_165, r_least, hgk, ex, hrw, zz]
      · rw [if_neg cb]
        simp (disch := first | assumption | exact zrm0 | exact zrm1 _ | exact zrm2 _ _ | exact zrm3 _ _ _ | exact zrm4 _ _ _ _ | omega) only [m253, ↓k_dp, ↓k_dn, k_dp, k_dn, k_dT, k_dF, k_ip, k_in, if_true, if_false, ne_eq, not_true_eq_false, not_false_eq_true, Int.reduceAdd, zup_a, zup_e, zup_j, z32_id, k_al0, k_gR, k_ic, k_ild, k_ildS, k_ildW, k_is2, k_is3, k_il3, k_icgt, k_il2, k_imul, k_iadd, k_ifne, k_goto, k_ist, k_inc3, k_isub, k_iflt, k_il1, k_v3r, k_is4, k_is5, k_il5, k_is6, k_is7, k_il7, k_il4, k_s2r, k_v4r, k_is8, k_il8, k_il6, k_icle, k_inc7, k_inc5, k_rv, zb0_some, zb1_some, e253_0, e253_1, e253_4, e253_5, e253_6, e253_7, e253_8, e253_9, e253_10, e253_13, e253_16, e253_17, e253_20, e253_23, e253_24, e253_25, e253_26, e253_27, e253_28, e253_31, e253_32, e253_35, e253_38, e253_39, e253_42, e253_45, e253_46, e253_47, e253_48, e253_49, e253_50, e253_53, e253_54, e253_55, e253_56, e253_59, e253_61, e253_62, e253_64, e253_66, e253_69, e253_72, e253_75, e253_77, e253_78, e253_82, e253_84, e253_86, e253_89, e253_92, e253_93, e253_94, e253_95, e253_97, e253_100, e253_101, e253_104, e253_107, e253_108, e253_109, e253_110, e253_111, e253_113, e253_114, e253_116, e253_117, e253_118, e253_119, e253_121, e253_123, e253_125, e253_128, e253_130, e253_132, e253_135, e253_138, e253_139, e253_142, e253_145, e253_146, e253_147, e253_149, e253_150, e253_152, e253_153, e253_156, e253_159, e253_162, e253_165, r_least, hgk, ex, hrw, zz]) (dK (rB (zrS M) (zrG M) q h) n) 0 (-1000000, l8) (by omega) (Int.le_refl _)
  have hf := zit_fst (F := fun (k : Int) (p : Int × zV) => (sMax p.1 (v k), ((0, v k, 0) : zV))) (f := fun k b => sMax b (v k)) (fun _ _ => rfl) (dK (rB (zrS M) (zrG M) q h) n) 0 (-1000000, l8)
  rw [zit_mx] at hf
  obtain ⟨h2, -⟩ := hl
  dsimp only at h2 hf
  rw [hdX, ← hf, h2, e253_80]
  generalize zit (fun (k : Int) (p : Int × zV) => (sMax p.1 (v k), ((0, v k, 0) : zV))) (dK (rB (zrS M) (zrG M) q h) n) 0 (-1000000, l8) = w
  refine ⟨((dK (rB (zrS M) (zrG M) q h) n : Nat) : Int), w.2, ?_⟩
  rw [hdk]
  obtain ⟨w1, w2⟩ := w
  dsimp only
  simp (disch := first | assumption | exact zrm0 | exact zrm1 _ | exact zrm2 _ _ | exact zrm3 _ _ _ | exact zrm4 _ _ _ _ | omega) only [m253, ↓k_dp, ↓k_dn, k_dp, k_dn, k_dT, k_dF, k_ip, k_in, if_true, if_false, ne_eq, not_true_eq_false, not_false_eq_true, Int.reduceAdd, zup_a, zup_e, zup_j, z32_id, k_al0, k_gR, k_ic, k_ild, k_ildS, k_ildW, k_is2, k_is3, k_il3, k_icgt, k_il2, k_imul, k_iadd, k_ifne, k_goto, k_ist, k_inc3, k_isub, k_iflt, k_il1, k_v3r, k_is4, k_is5, k_il5, k_is6, k_is7, k_il7, k_il4, k_s2r, k_v4r, k_is8, k_il8, k_il6, k_icle, k_inc7, k_inc5, k_rv, zb0_some, zb1_some, e253_0, e253_1, e253_4, e253_5, e253_6, e253_7, e253_8, e253_9, e253_10, e253_13, e253_16, e253_17, e253_20, e253_23, e253_24, e253_25, e253_26, e253_27, e253_28, e253_31, e253_32, e253_35, e253_38, e253_39, e253_42, e253_45, e253_46, e253_47, e253_48, e253_49, e253_50, e253_53, e253_54, e253_55, e253_56, e253_59, e253_61, e253_62, e253_64, e253_66, e253_69, e253_72, e253_75, e253_77, e253_78, e253_82, e253_84, e253_86, e253_89, e253_92, e253_93, e253_94, e253_95, e253_97, e253_100, e253_101, e253_104, e253_107, e253_108, e253_109, e253_110, e253_111, e253_113, e253_114, e253_116, e253_117, e253_118, e253_119, e253_121, e253_123, e253_125, e253_128, e253_130, e253_132, e253_135, e253_139, e253_142, e253_145, e253_146, e253_147, e253_149, e253_150, e253_152, e253_153, e253_156, e253_159, e253_162, e253_165, r_least]
theorem r_layT (d : Nat) (z0 q y h : Int) (M : zM) (j : Nat) (hS : okS (zrS M)) (hG : okG (zrG M)) (q0 : 0 ≤ q) (q1 : q < 5) (h0 : 0 ≤ h) (h1 : h < M 199 1) (hj : h = M 199 1 - (j + 1)) : ∀ (m : Nat) (t : Int) (l6 l7 l8 : zV) (N : zM), t + m = 201 → 0 ≤ t → okX M N → okXR M N q j → (∀ n, 0 ≤ n → n < t → N 209 (201 * h + n) = zXf M q (j + 1) n) → ∃ l6' l7' l8' N', zEv true (d + 4) 253 64 [(30, 197, z0), (0, q, y), (0, M 199 1, 0), (0, h, 0), (0, rB (zrS M) (zrG M) q h, 0), (0, t, 0), l6, l7, l8] [] N = zEv true (d + 4) 253 159 [(30, 197, z0), (0, q, y), (0, M 199 1, 0), (0, h, 0), (0, rB (zrS M) (zrG M) q h, 0), (0, 201, 0), l6', l7', l8'] [] N' ∧ okX M N' ∧ okXR M N' q (j + 1)
  | 0, t, l6, l7, l8, N, hm, t0, hX, hR, hT => by
    have e : t = 201 := by omega
    subst e
    refine ⟨l6, l7, l8, N, ?_, hX, fun i n hi n0 n1 => ?_⟩
    · rw [e253_64]
      simp (disch := first | assumption | exact zrm0 | exact zrm1 _ | exact zrm2 _ _ | exact zrm3 _ _ _ | exact zrm4 _ _ _ _ | omega) only [m253, ↓k_dp, ↓k_dn, k_dp, k_dn, k_dT, k_dF, k_ip, k_in, if_true, if_false, ne_eq, not_true_eq_false, not_false_eq_true, Int.reduceAdd, zup_a, zup_e, zup_j, z32_id, k_al0, k_gR, k_ic, k_ild, k_ildS, k_ildW, k_is2, k_is3, k_il3, k_icgt, k_il2, k_imul, k_iadd, k_ifne, k_goto, k_ist, k_inc3, k_isub, k_iflt, k_il1, k_v3r, k_is4, k_is5, k_il5, k_is6, k_is7, k_il7, k_il4, k_s2r, k_v4r, k_is8, k_il8, k_il6, k_icle, k_inc7, k_inc5, k_rv, zb0_some, zb1_some, e253_0, e253_1, e253_4, e253_5, e253_6, e253_7, e253_8, e253_9, e253_10, e253_13, e253_16, e253_17, e253_20, e253_23, e253_24, e253_25, e253_26, e253_27, e253_28, e253_31, e253_32, e253_35, e253_38, e253_39, e253_42, e253_45, e253_46, e253_47, e253_48, e253_49, e253_50, e253_53, e253_54, e253_55, e253_56, e253_59, e253_61, e253_62, e253_66, e253_69, e253_72, e253_75, e253_77, e253_78, e253_80, e253_82, e253_84, e253_86, e253_89, e253_92, e253_93, e253_94, e253_95, e253_97, e253_100, e253_101, e253_104, e253_107, e253_108, e253_109, e253_110, e253_111, e253_113, e253_114, e253_116, e253_117, e253_118, e253_119, e253_121, e253_123, e253_125, e253_128, e253_130, e253_132, e253_135, e253_138, e253_139, e253_142, e253_145, e253_146, e253_147, e253_149, e253_150, e253_152, e253_153, e253_156, e253_162, e253_165]
    · by_cases c : i ≤ j
      · exact hR i n c n0 n1
      · have e : i = j + 1 := by omega
        subst e
        have := hT n n0 (by omega)
        rw [hj] at this
        exact this
  | m + 1, t, l6, l7, l8, N, hm, t0, hX, hR, hT => by
    obtain ⟨⟨g6, g6'⟩, ⟨g1, g2⟩, -⟩ := okR_M hG
    obtain ⟨k', l8', hk⟩ := r_layK d z0 q y h t l8 M N j hS hG q0 q1 hX h0 h1 t0 (by omega) hj (fun n n0 n1 => by
      have := hR j n (Nat.le_refl _) n0 n1
      rw [show M 199 1 - (j : Int) = h + 1 by omega] at this
      exact this)
    obtain ⟨l6'', l7'', l8'', N', i1, i2, i3⟩ := r_layT d z0 q y h M j hS hG q0 q1 h0 h1 hj m (t + 1) (0, zXf M q (j + 1) t, 0) (0, k', 0) l8' (zup N 209 (201 * h + t) (zXf M q (j + 1) t)) (by omega) (by omega) (okX_up hX) (fun i n hi n0 n1 => by
      rw [zup_j (by omega)]
      exact hR i n hi n0 n1) (fun n n0 n1 => by
      by_cases c : n = t
      · rw [c, zup_e (by omega)]
      · rw [zup_j (by omega)]
        exact hT n n0 (by omega))
    refine ⟨l6'', l7'', l8'', N', ?_, i2, i3⟩
    rw [← i1, e253_64]
    generalize zXf M q (j + 1) t = vv at hk ⊢
    generalize rB (zrS M) (zrG M) q h = rr at hk ⊢
    simp (disch := first | assumption | exact zrm0 | exact zrm1 _ | exact zrm2 _ _ | exact zrm3 _ _ _ | exact zrm4 _ _ _ _ | omega) only [m253, ↓k_dp, ↓k_dn, k_dp, k_dn, k_dT, k_dF, k_ip, k_in, if_true, if_false, ne_eq, not_true_eq_false, not_false_eq_true, Int.reduceAdd, zup_a, zup_e, zup_j, z32_id, k_al0, k_gR, k_ic, k_ild, k_ildS, k_ildW, k_is2, k_is3, k_il3, k_icgt, k_il2, k_imul, k_iadd, k_ifne, k_goto, k_ist, k_inc3, k_isub, k_iflt, k_il1, k_v3r, k_is4, k_is5, k_il5, k_is6, k_is7, k_il7, k_il4, k_s2r, k_v4r, k_is8, k_il8, k_il6, k_icle, k_inc7, k_inc5, k_rv, zb0_some, zb1_some, e253_0, e253_1, e253_4, e253_5, e253_6, e253_7, e253_8, e253_9, e253_10, e253_13, e253_16, e253_17, e253_20, e253_23, e253_24, e253_25, e253_26, e253_27, e253_28, e253_31, e253_32, e253_35, e253_38, e253_39, e253_42, e253_45, e253_46, e253_47, e253_48, e253_49, e253_50, e253_53, e253_54, e253_55, e253_56, e253_59, e253_61, e253_62, e253_66, e253_69, e253_72, e253_75, e253_77, e253_78, e253_82, e253_84, e253_86, e253_89, e253_92, e253_93, e253_94, e253_95, e253_97, e253_100, e253_101, e253_104, e253_107, e253_108, e253_109, e253_110, e253_111, e253_113, e253_114, e253_116, e253_117, e253_118, e253_119, e253_121, e253_123, e253_125, e253_128, e253_130, e253_132, e253_135, e253_138, e253_139, e253_142, e253_145, e253_146, e253_147, e253_149, e253_150, e253_152, e253_153, e253_156, e253_159, e253_162, e253_165, Int.reduceNeg]
    rw [hk]
    simp (disch := first | assumption | exact zrm0 | exact zrm1 _ | exact zrm2 _ _ | exact zrm3 _ _ _ | exact zrm4 _ _ _ _ | omega) only [m253, ↓k_dp, ↓k_dn, k_dp, k_dn, k_dT, k_dF, k_ip, k_in, if_true, if_false, ne_eq, not_true_eq_false, not_false_eq_true, Int.reduceAdd, zup_a, zup_e, zup_j, z32_id, k_al0, k_gR, k_ic, k_ild, k_ildS, k_ildW, k_is2, k_is3, k_il3, k_icgt, k_il2, k_imul, k_iadd, k_ifne, k_goto, k_ist, k_inc3, k_isub, k_iflt, k_il1, k_v3r, k_is4, k_is5, k_il5, k_is6, k_is7, k_il7, k_il4, k_s2r, k_v4r, k_is8, k_il8, k_il6, k_icle, k_inc7, k_inc5, k_rv, zb0_some, zb1_some, e253_0, e253_1, e253_4, e253_5, e253_6, e253_7, e253_8, e253_9, e253_10, e253_13, e253_16, e253_17, e253_20, e253_23, e253_24, e253_25, e253_26, e253_27, e253_28, e253_31, e253_32, e253_35, e253_38, e253_39, e253_42, e253_45, e253_46, e253_47, e253_48, e253_49, e253_50, e253_53, e253_54, e253_55, e253_56, e253_59, e253_61, e253_62, e253_66, e253_69, e253_72, e253_75, e253_77, e253_78, e253_80, e253_82, e253_84, e253_86, e253_89, e253_92, e253_93, e253_94, e253_95, e253_97, e253_100, e253_101, e253_104, e253_107, e253_108, e253_109, e253_110, e253_111, e253_113, e253_114, e253_116, e253_117, e253_118, e253_119, e253_121, e253_123, e253_125, e253_128, e253_130, e253_132, e253_135, e253_138, e253_139, e253_142, e253_145, e253_146, e253_147, e253_149, e253_150, e253_152, e253_153, e253_156, e253_159, e253_162, e253_165]
theorem r_layH (d : Nat) (z0 q y : Int) (M : zM) (hS : okS (zrS M)) (hG : okG (zrG M)) (q0 : 0 ≤ q) (q1 : q < 5) : ∀ (m : Nat) (j : Nat) (l4 l5 l6 l7 l8 : zV) (N : zM), (j : Int) + m = M 199 1 → okX M N → okXR M N q j → ∃ N', zEv true (d + 4) 253 49 [(30, 197, z0), (0, q, y), (0, M 199 1, 0), (0, M 199 1 - 1 - j, 0), l4, l5, l6, l7, l8] [] N = some ((98, 0, 0), N') ∧ okX M N' ∧ okXR M N' q (j + m)
  | 0, j, l4, l5, l6, l7, l8, N, hm, hX, hR => by
    refine ⟨N, ?_, hX, hR⟩
    have e : M 199 1 - 1 - (j : Int) = -1 := by omega
    rw [e, e253_49]
    simp (disch := first | assumption | exact zrm0 | exact zrm1 _ | exact zrm2 _ _ | exact zrm3 _ _ _ | exact zrm4 _ _ _ _ | omega) only [m253, ↓k_dp, ↓k_dn, k_dp, k_dn, k_dT, k_dF, k_ip, k_in, if_true, if_false, ne_eq, not_true_eq_false, not_false_eq_true, Int.reduceAdd, zup_a, zup_e, zup_j, z32_id, k_al0, k_gR, k_ic, k_ild, k_ildS, k_ildW, k_is2, k_is3, k_il3, k_icgt, k_il2, k_imul, k_iadd, k_ifne, k_goto, k_ist, k_inc3, k_isub, k_iflt, k_il1, k_v3r, k_is4, k_is5, k_il5, k_is6, k_is7, k_il7, k_il4, k_s2r, k_v4r, k_is8, k_il8, k_il6, k_icle, k_inc7, k_inc5, k_rv, zb0_some, zb1_some, e253_0, e253_1, e253_4, e253_5, e253_6, e253_7, e253_8, e253_9, e253_10, e253_13, e253_16, e253_17, e253_20, e253_23, e253_24, e253_25, e253_26, e253_27, e253_28, e253_31, e253_32, e253_35, e253_38, e253_39, e253_42, e253_45, e253_46, e253_47, e253_48, e253_50, e253_53, e253_54, e253_55, e253_56, e253_59, e253_61, e253_62, e253_64, e253_66, e253_69, e253_72, e253_75, e253_77, e253_78, e253_80, e253_82, e253_84, e253_86, e253_89, e253_92, e253_93, e253_94, e253_95, e253_97, e253_100, e253_101, e253_104, e253_107, e253_108, e253_109, e253_110, e253_111, e253_113, e253_114, e253_116, e253_117, e253_118, e253_119, e253_121, e253_123, e253_125, e253_128, e253_130, e253_132, e253_135, e253_138, e253_139, e253_142, e253_145, e253_146, e253_147, e253_149, e253_150, e253_152, e253_153, e253_156, e253_159, e253_162, e253_165]
  | m + 1, j, l4, l5, l6, l7, l8, N, hm, hX, hR => by
    obtain ⟨⟨g6, g6'⟩, ⟨g1, g2⟩, -⟩ := okR_M hG
    obtain ⟨h, hh⟩ : ∃ h, h = M 199 1 - 1 - (j : Int) := ⟨_, rfl⟩
    have eS : zrS N = zrS M := zrS_eq (fun b _ _ _ => hX 199 b (by omega))
    have eG : zrG N = zrG M := zrG_eq (fun b _ _ => hX 199 b (by omega))
    have n199 : N 199 1 = M 199 1 := hX _ _ (by omega)
    obtain ⟨l6', l7', l8', N1, i1, i2, i3⟩ := r_layT d z0 q y h M j hS hG q0 q1 (by omega) (by omega) (by omega) 201 0 l6 l7 l8 N (by omega) (Int.le_refl _) hX hR (fun n n0 n1 => by omega)
    obtain ⟨N2, j1, j2, j3⟩ := r_layH d z0 q y M hS hG q0 q1 m (j + 1) (0, rB (zrS M) (zrG M) q h, 0) (0, 201, 0) l6' l7' l8' N1 (by omega) i2 i3
    refine ⟨N2, ?_, j2, by rw [show j + (m + 1) = j + 1 + m by omega]; exact j3⟩
    rw [← hh, e253_49]
    have e2 : M 199 1 - 1 - ((j + 1 : Nat) : Int) = h - 1 := by omega
    have e3 : h + -1 = h - 1 := by omega
    rw [e2] at j1
    have h1 : 0 ≤ h := by omega
    have h2 : h < 10 := by omega
    have hcb := r_canBuy (d + 2) z0 h 0 q 0 N (by rw [eS]; exact hS) (by rw [eG]; exact hG) h1 (by rw [n199]; omega) q0 q1
    rw [eS, eG] at hcb
    simp (disch := first | assumption | exact zrm0 | exact zrm1 _ | exact zrm2 _ _ | exact zrm3 _ _ _ | exact zrm4 _ _ _ _ | omega) only [m253, ↓k_dp, ↓k_dn, k_dp, k_dn, k_dT, k_dF, k_ip, k_in, if_true, if_false, ne_eq, not_true_eq_false, not_false_eq_true, Int.reduceAdd, zup_a, zup_e, zup_j, z32_id, k_al0, k_gR, k_ic, k_ild, k_ildS, k_ildW, k_is2, k_is3, k_il3, k_icgt, k_il2, k_imul, k_iadd, k_ifne, k_goto, k_ist, k_inc3, k_isub, k_iflt, k_il1, k_v3r, k_is4, k_is5, k_il5, k_is6, k_is7, k_il7, k_il4, k_s2r, k_v4r, k_is8, k_il8, k_il6, k_icle, k_inc7, k_inc5, k_rv, zb0_some, zb1_some, e253_0, e253_1, e253_4, e253_5, e253_6, e253_7, e253_8, e253_9, e253_10, e253_13, e253_16, e253_17, e253_20, e253_23, e253_24, e253_25, e253_26, e253_27, e253_28, e253_31, e253_32, e253_35, e253_38, e253_39, e253_42, e253_45, e253_46, e253_47, e253_48, e253_50, e253_53, e253_54, e253_55, e253_56, e253_59, e253_61, e253_62, e253_66, e253_69, e253_72, e253_75, e253_77, e253_78, e253_80, e253_82, e253_84, e253_86, e253_89, e253_92, e253_93, e253_94, e253_95, e253_97, e253_100, e253_101, e253_104, e253_107, e253_108, e253_109, e253_110, e253_111, e253_113, e253_114, e253_116, e253_117, e253_118, e253_119, e253_121, e253_123, e253_125, e253_128, e253_130, e253_132, e253_135, e253_138, e253_139, e253_142, e253_145, e253_146, e253_147, e253_149, e253_150, e253_152, e253_153, e253_156, e253_159, e253_162, e253_165, hcb]
    rw [i1]
    simp (disch := first | assumption | exact zrm0 | exact zrm1 _ | exact zrm2 _ _ | exact zrm3 _ _ _ | exact zrm4 _ _ _ _ | omega) only [m253, ↓k_dp, ↓k_dn, k_dp, k_dn, k_dT, k_dF, k_ip, k_in, if_true, if_false, ne_eq, not_true_eq_false, not_false_eq_true, Int.reduceAdd, zup_a, zup_e, zup_j, z32_id, k_al0, k_gR, k_ic, k_ild, k_ildS, k_ildW, k_is2, k_is3, k_il3, k_icgt, k_il2, k_imul, k_iadd, k_ifne, k_goto, k_ist, k_inc3, k_isub, k_iflt, k_il1, k_v3r, k_is4, k_is5, k_il5, k_is6, k_is7, k_il7, k_il4, k_s2r, k_v4r, k_is8, k_il8, k_il6, k_icle, k_inc7, k_inc5, k_rv, zb0_some, zb1_some, e253_0, e253_1, e253_4, e253_5, e253_6, e253_7, e253_8, e253_9, e253_10, e253_13, e253_16, e253_17, e253_20, e253_23, e253_24, e253_25, e253_26, e253_27, e253_28, e253_31, e253_32, e253_35, e253_38, e253_39, e253_42, e253_45, e253_46, e253_47, e253_48, e253_50, e253_53, e253_54, e253_55, e253_56, e253_59, e253_61, e253_62, e253_64, e253_66, e253_69, e253_72, e253_75, e253_77, e253_78, e253_80, e253_82, e253_84, e253_86, e253_89, e253_92, e253_93, e253_94, e253_95, e253_97, e253_100, e253_101, e253_104, e253_107, e253_108, e253_109, e253_110, e253_111, e253_113, e253_114, e253_116, e253_117, e253_118, e253_119, e253_121, e253_123, e253_125, e253_128, e253_130, e253_132, e253_135, e253_138, e253_139, e253_142, e253_145, e253_146, e253_147, e253_149, e253_150, e253_152, e253_153, e253_156, e253_159, e253_162, e253_165, e3, Int.reduceNeg]
    exact j1
theorem r_layMost (d : Nat) (z0 q y : Int) (M : zM) (hS : okS (zrS M)) (hG : okG (zrG M)) (q0 : 0 ≤ q) (q1 : q < 5) : ∃ N', zEm true (d + 5) 253 [(30, 197, z0), (0, q, y)] M = some ((98, 0, 0), N') ∧ okX M N' ∧ okXR M N' q (M 199 1).toNat := by
  obtain ⟨⟨g6, g6'⟩, ⟨g1, g2⟩, -⟩ := okR_M hG
  have hl := zfor (α := zM) (ph := true) (d := d + 4) (j := 253) (pc := 9) (fun t U => zup U 209 (201 * M 199 1 + t) (if t = 0 then 0 else -1000000)) (fun t U => 0 ≤ t ∧ okX M U ∧ ∀ n, 0 ≤ n → n < t → U 209 (201 * M 199 1 + n) = if n = 0 then 0 else -1000000) (fun t _ => [(30, 197, z0), (0, q, y), (0, M 199 1, 0), (0, t, 0), (3, 0, 0), (3, 0, 0), (3, 0, 0), (3, 0, 0), (3, 0, 0)]) (fun U => U) 201
    (fun t U hk hp => by
      obtain ⟨t0, hX, hz⟩ := hp
      refine ⟨?_, by omega, okX_up hX, fun n n0 n1 => ?_⟩
      · rw [e253_9]
        by_cases c : t = 0
        · rw [if_pos c]
          simp (disch := first | assumption | exact zrm0 | exact zrm1 _ | exact zrm2 _ _ | exact zrm3 _ _ _ | exact zrm4 _ _ _ _ | omega) only [m253, ↓k_dp, ↓k_dn, k_dp, k_dn, k_dT, k_dF, k_ip, k_in, if_true, if_false, ne_eq, not_true_eq_false, not_false_eq_true, Int.reduceAdd, zup_a, zup_e, zup_j, z32_id, k_al0, k_gR, k_ic, k_ild, k_ildS, k_ildW, k_is2, k_is3, k_il3, k_icgt, k_il2, k_imul, k_iadd, k_ifne, k_goto, k_ist, k_inc3, k_isub, k_iflt, k_il1, k_v3r, k_is4, k_is5, k_il5, k_is6, k_is7, k_il7, k_il4, k_s2r, k_v4r, k_is8, k_il8, k_il6, k_icle, k_inc7, k_inc5, k_rv, zb0_some, zb1_some, e253_0, e253_1, e253_4, e253_5, e253_6, e253_7, e253_8, e253_10, e253_13, e253_16, e253_17, e253_20, e253_23, e253_24, e253_25, e253_26, e253_27, e253_28, e253_31, e253_32, e253_35, e253_38, e253_39, e253_42, e253_45, e253_46, e253_47, e253_48, e253_49, e253_50, e253_53, e253_54, e253_55, e253_56, e253_59, e253_61, e253_62, e253_64, e253_66, e253_69, e253_72, e253_75, e253_77, e253_78, e253_80, e253_82, e253_84, e253_86, e253_89, e253_92, e253_93, e253_94, e253_95, e253_97, e253_100, e253_101, e253_104, e253_107, e253_108, e253_109, e253_110, e253_111, e253_113, e253_114, e253_116, e253_117, e253_118, e253_119, e253_121, e253_123, e253_125, e253_128, e253_130, e253_132, e253_135, e253_138, e253_139, e253_142, e253_145, e253_146, e253_147, e253_149, e253_150, e253_152, e253_153, e253_156, e253_159, e253_162, e253_165, c]
        · rw [if_neg c]
          simp (disch := first | assumption | exact zrm0 | exact zrm1 _ | exact zrm2 _ _ | exact zrm3 _ _ _ | exact zrm4 _ _ _ _ | omega) only [m253, ↓k_dp, ↓k_dn, k_dp, k_dn, k_dT, k_dF, k_ip, k_in, if_true, if_false, ne_eq, not_true_eq_false, not_false_eq_true, Int.reduceAdd, zup_a, zup_e, zup_j, z32_id, k_al0, k_gR, k_ic, k_ild, k_ildS, k_ildW, k_is2, k_is3, k_il3, k_icgt, k_il2, k_imul, k_iadd, k_ifne, k_goto, k_ist, k_inc3, k_isub, k_iflt, k_il1, k_v3r, k_is4, k_is5, k_il5, k_is6, k_is7, k_il7, k_il4, k_s2r, k_v4r, k_is8, k_il8, k_il6, k_icle, k_inc7, k_inc5, k_rv, zb0_some, zb1_some, e253_0, e253_1, e253_4, e253_5, e253_6, e253_7, e253_8, e253_10, e253_13, e253_16, e253_17, e253_20, e253_23, e253_24, e253_25, e253_26, e253_27, e253_28, e253_31, e253_32, e253_35, e253_38, e253_39, e253_42, e253_45, e253_46, e253_47, e253_48, e253_49, e253_50, e253_53, e253_54, e253_55, e253_56, e253_59, e253_61, e253_62, e253_64, e253_66, e253_69, e253_72, e253_75, e253_77, e253_78, e253_80, e253_82, e253_84, e253_86, e253_89, e253_92, e253_93, e253_94, e253_95, e253_97, e253_100, e253_101, e253_104, e253_107, e253_108, e253_109, e253_110, e253_111, e253_113, e253_114, e253_116, e253_117, e253_118, e253_119, e253_121, e253_123, e253_125, e253_128, e253_130, e253_132, e253_135, e253_138, e253_139, e253_142, e253_145, e253_146, e253_147, e253_149, e253_150, e253_152, e253_153, e253_156, e253_159, e253_162, e253_165]
      · by_cases c : n = t
        · rw [c, zup_e (by omega)]
        · rw [zup_j (by omega)]; exact hz n n0 (by omega)) 201 0 M (by omega) ⟨Int.le_refl _, fun _ _ _ => rfl, fun n n0 n1 => by omega⟩
  obtain ⟨h1, -, hX1, h2⟩ := hl
  generalize zit (fun t U => zup U 209 (201 * M 199 1 + t) (if t = 0 then 0 else -1000000)) 201 0 M = U at h1 hX1 h2
  obtain ⟨N', j1, j2, j3⟩ := r_layH d z0 q y M hS hG q0 q1 (M 199 1).toNat 0 (3, 0, 0) (3, 0, 0) (3, 0, 0) (3, 0, 0) (3, 0, 0) U (by omega) hX1 (fun i n hi n0 n1 => by
    have e : i = 0 := by omega
    subst e
    have := h2 n n0 (by omega)
    rw [show M 199 1 - ((0 : Nat) : Int) = M 199 1 by omega, this]
    rfl)
  refine ⟨N', ?_, j2, by rw [Nat.zero_add] at j3; exact j3⟩
  have e : M 199 1 - 1 - ((0 : Nat) : Int) = M 199 1 - 1 := by omega
  rw [e] at j1
  simp (disch := first | assumption | exact zrm0 | exact zrm1 _ | exact zrm2 _ _ | exact zrm3 _ _ _ | exact zrm4 _ _ _ _ | omega) only [m253, ↓k_dp, ↓k_dn, k_dp, k_dn, k_dT, k_dF, k_ip, k_in, if_true, if_false, ne_eq, not_true_eq_false, not_false_eq_true, Int.reduceAdd, zup_a, zup_e, zup_j, z32_id, k_al0, k_gR, k_ic, k_ild, k_ildS, k_ildW, k_is2, k_is3, k_il3, k_icgt, k_il2, k_imul, k_iadd, k_ifne, k_goto, k_ist, k_inc3, k_isub, k_iflt, k_il1, k_v3r, k_is4, k_is5, k_il5, k_is6, k_is7, k_il7, k_il4, k_s2r, k_v4r, k_is8, k_il8, k_il6, k_icle, k_inc7, k_inc5, k_rv, zb0_some, zb1_some, e253_0, e253_1, e253_4, e253_5, e253_6, e253_7, e253_8, e253_10, e253_13, e253_16, e253_17, e253_20, e253_23, e253_24, e253_25, e253_26, e253_27, e253_28, e253_31, e253_32, e253_35, e253_38, e253_39, e253_42, e253_45, e253_46, e253_47, e253_48, e253_49, e253_50, e253_53, e253_54, e253_55, e253_56, e253_59, e253_61, e253_62, e253_64, e253_66, e253_69, e253_72, e253_75, e253_77, e253_78, e253_80, e253_82, e253_84, e253_86, e253_89, e253_92, e253_93, e253_94, e253_95, e253_97, e253_100, e253_101, e253_104, e253_107, e253_108, e253_109, e253_110, e253_111, e253_113, e253_114, e253_116, e253_117, e253_118, e253_119, e253_121, e253_123, e253_125, e253_128, e253_130, e253_132, e253_135, e253_138, e253_139, e253_142, e253_145, e253_146, e253_147, e253_149, e253_150, e253_152, e253_153, e253_156, e253_159, e253_162, e253_165]
  rw [h1]
  simp (disch := first | assumption | exact zrm0 | exact zrm1 _ | exact zrm2 _ _ | exact zrm3 _ _ _ | exact zrm4 _ _ _ _ | omega) only [m253, ↓k_dp, ↓k_dn, k_dp, k_dn, k_dT, k_dF, k_ip, k_in, if_true, if_false, ne_eq, not_true_eq_false, not_false_eq_true, Int.reduceAdd, zup_a, zup_e, zup_j, z32_id, k_al0, k_gR, k_ic, k_ild, k_ildS, k_ildW, k_is2, k_is3, k_il3, k_icgt, k_il2, k_imul, k_iadd, k_ifne, k_goto, k_ist, k_inc3, k_isub, k_iflt, k_il1, k_v3r, k_is4, k_is5, k_il5, k_is6, k_is7, k_il7, k_il4, k_s2r, k_v4r, k_is8, k_il8, k_il6, k_icle, k_inc7, k_inc5, k_rv, zb0_some, zb1_some, e253_0, e253_1, e253_4, e253_5, e253_6, e253_7, e253_8, e253_9, e253_10, e253_13, e253_16, e253_17, e253_20, e253_23, e253_24, e253_25, e253_26, e253_27, e253_28, e253_31, e253_32, e253_35, e253_38, e253_39, e253_42, e253_45, e253_46, e253_47, e253_48, e253_50, e253_53, e253_54, e253_55, e253_56, e253_59, e253_61, e253_62, e253_64, e253_66, e253_69, e253_72, e253_75, e253_77, e253_78, e253_80, e253_82, e253_84, e253_86, e253_89, e253_92, e253_93, e253_94, e253_95, e253_97, e253_100, e253_101, e253_104, e253_107, e253_108, e253_109, e253_110, e253_111, e253_113, e253_114, e253_116, e253_117, e253_118, e253_119, e253_121, e253_123, e253_125, e253_128, e253_130, e253_132, e253_135, e253_138, e253_139, e253_142, e253_145, e253_146, e253_147, e253_149, e253_150, e253_152, e253_153, e253_156, e253_159, e253_162, e253_165]
  exact j1
