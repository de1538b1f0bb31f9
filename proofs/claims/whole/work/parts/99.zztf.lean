/-! a book on the empty valley (gensv3.py) -/
theorem bLn_0 {w h q n : Int} (hb : bLn 0 0 w h q n) : (w = 50 ∧ 0 ≤ q ∧ q ≤ 1 ∧ 0 ≤ n ∧ n ≤ 20) ∨ (w = 60 ∧ 0 ≤ q ∧ q ≤ 2) ∨ (w = 70 ∧ 1 ≤ n ∧ n ≤ 60) := by
  unfold bLn at hb
  omega
theorem bWhy_50 {T G : zM} {h q n : Int} : bWhy T G 50 h q n = if T 8 q = n then 1 else 0 := by
  unfold bWhy
  rw [if_neg (by decide), if_neg (by decide), if_neg (by decide), if_neg (by decide), if_neg (by decide), if_pos rfl]
theorem bWhy_60 {T G : zM} {h q n : Int} : bWhy T G 60 h q n = if T 0 9 = q then 1 else 0 := by
  unfold bWhy
  rw [if_neg (by decide), if_neg (by decide), if_neg (by decide), if_neg (by decide), if_neg (by decide), if_neg (by decide), if_pos rfl]
theorem bWhy_70 {T G : zM} {h q n : Int} : bWhy T G 70 h q n = if 400 - T 0 10 < n then 1 else 0 := by
  unfold bWhy
  rw [if_neg (by decide), if_neg (by decide), if_neg (by decide), if_neg (by decide), if_neg (by decide), if_neg (by decide), if_neg (by decide)]
theorem bNew_50 {T G : zM} {h q n : Int} : bNew T G 50 h q n = zup T 8 q n := by
  unfold bNew
  rw [if_neg (by decide), if_neg (by decide), if_neg (by decide), if_neg (by decide), if_neg (by decide), if_pos rfl]
theorem bNew_60 {T G : zM} {h q n : Int} : bNew T G 60 h q n = zup T 0 9 q := by
  unfold bNew
  rw [if_neg (by decide), if_neg (by decide), if_neg (by decide), if_neg (by decide), if_neg (by decide), if_neg (by decide), if_pos rfl]
theorem bNew_70 {T G : zM} {h q n : Int} : bNew T G 70 h q n = tDays G n.toNat T := by
  unfold bNew
  rw [if_neg (by decide), if_neg (by decide), if_neg (by decide), if_neg (by decide), if_neg (by decide), if_neg (by decide), if_neg (by decide)]
theorem bWhy_sg {T G : zM} {w h q n : Int} (hb : bLn 0 0 w h q n) : bWhy (sgS T) G w h q n = bWhy T G w h q n := by
  rcases bLn_0 hb with ⟨rfl, -⟩ | ⟨rfl, -⟩ | ⟨rfl, -⟩
  · rw [bWhy_50, bWhy_50, sg_o (by decide) (by decide)]
  · rw [bWhy_60, bWhy_60, sg_o (by decide) (by decide)]
  · rw [bWhy_70, bWhy_70, sg_o (by decide) (by decide)]
theorem bT_sg {T G : zM} {w h q n : Int} (hb : bLn 0 0 w h q n) (h7 : G 0 7 = 0) : bT (sgS T) G w h q n = sgS (bT T G w h q n) := by
  unfold bT
  rw [bWhy_sg hb]
  split
  · rcases bLn_0 hb with ⟨rfl, -⟩ | ⟨rfl, -⟩ | ⟨rfl, -⟩
    · rw [bNew_50, bNew_50, sg_up (by decide) (by decide)]
    · rw [bNew_60, bNew_60, sg_up (by decide) (by decide)]
    · rw [bNew_70, bNew_70, tDays_sg h7]
  · rfl
theorem bT_row {T G : zM} {w h q n : Int} (hb : bLn 0 0 w h q n) (h7 : G 0 7 = 0) (hT : ∀ k, 0 ≤ k → k < 5 → T 5 k = 0) : ∀ k, 0 ≤ k → k < 5 → bT T G w h q n 5 k = 0 := by
  intro k k0 k1
  unfold bT
  split
  · rcases bLn_0 hb with ⟨rfl, -⟩ | ⟨rfl, -⟩ | ⟨rfl, -⟩
    · rw [bNew_50, zup_a (by omega)]; exact hT k k0 k1
    · rw [bNew_60, zup_a (by omega)]; exact hT k k0 k1
    · rw [bNew_70]; exact tDays_row h7 hT k k0 k1
  · exact hT k k0 k1
theorem bRun_sg {G N : zM} {K : Int} (h7 : G 0 7 = 0) (h8 : G 0 8 = 0) (hl : bLs G N K) : ∀ (n : Nat) (k : Int) (T : zM), 0 ≤ k → k + n = K → bRun G N n k (sgS T) = ((bRun G N n k T).1, (bRun G N n k T).2.1, sgS (bRun G N n k T).2.2) ∧ ((∀ j, 0 ≤ j → j < 5 → T 5 j = 0) → ∀ j, 0 ≤ j → j < 5 → (bRun G N n k T).2.2 5 j = 0)
  | 0, k, T, _, _ => ⟨rfl, fun h => h⟩
  | n + 1, k, T, k0, hk => by
    have hb := hl k k0 (by omega)
    rw [h7, h8] at hb
    by_cases c : bWhy T G (N 26 k) (N 27 k) (N 28 k) (N 29 k) = 0
    · rw [bRun_t c, bRun_t (by rw [bWhy_sg hb]; exact c), bT_sg hb h7]
      obtain ⟨i1, i2⟩ := bRun_sg h7 h8 hl n (k + 1) (bT T G (N 26 k) (N 27 k) (N 28 k) (N 29 k)) (by omega) (by omega)
      exact ⟨i1, fun h => i2 (bT_row hb h7 h)⟩
    · rw [bRun_f c, bRun_f (by rw [bWhy_sg hb]; exact c), bWhy_sg hb]
      exact ⟨rfl, fun h => h⟩
def zPairBs (M : zM) (cc : zO) (rc : zM → zO) : Prop := ∃ v M1 M2, cc = some ((0, v, 0), M1) ∧ rc M1 = some ((0, v, 0), M2) ∧ relA M2 ∧ relC M2 ∧ emV M2 ∧ relEs M2 ∧ relFs M2 ∧ relH M2 ∧ ∀ x y, ¬ zFB x y → M2 x y = M x y
theorem pairV_book (d : Nat) (x0 z0 lv y1 z1 : Int) (M : zM) (hA : relA M) (hC : relC M) (hV : emV M) (hE : relEs M) (hD : relD M) (hF : relFs M) (hH : relH M) : zPairBs M (zEm true (d + 20) 39 [(29, 0, x0), (0, lv, y1)] M) (fun M1 => zEm true (d + 20) 283 [(30, 197, z0), (0, lv, z1)] M1) := by
  have hG := hC.2
  obtain ⟨⟨g6, g6'⟩, ⟨g1, g2⟩, ⟨g3, g4⟩, -⟩ := okG_M hG
  obtain ⟨n0, n1, n2, n3, n4, n5⟩ := relC_n hC
  obtain ⟨⟨f0, f1⟩, f2, f3, f4⟩ := id hF
  have oD : okD (zvS M 37) (zvG M 30) := ⟨zt_v, hE.2.1.1⟩
  have e7 : zvG M 30 0 7 = M 30 7 := zvG_0 (by omega) (by omega)
  have e8 : zvG M 30 0 8 = M 30 8 := zvG_0 (by omega) (by omega)
  by_cases hlv : lv = 0 ∨ lv = 1
  · have nbM : ∀ N : zM, (∀ x y, x = 199 ∨ x = 204 → N x y = M x y) → nmB M N := fun N h => by
      have r4 : N 204 = M 204 := funext fun y => h _ _ (Or.inr rfl)
      unfold nmB
      rw [h 199 0 (by omega), h 199 1 (by omega), h 199 2 (by omega), r4]
      refine ⟨⟨n0.symm, g6, g6'⟩, ⟨n1.symm, g1, g2⟩, ⟨n2.symm, g3, g4⟩, fun k k0 k1 => ?_, hD.2.1, hD.2.2⟩
      rw [Int.zero_add]
      exact hD.1 k k0 k1
    have raM : ∀ N : zM, (∀ x y, (x = 197 ∧ y = 2) ∨ x = 198 → N x y = M x y) → relTT M N := fun N h => by
      obtain ⟨t1, t2, t3⟩ := hA
      refine ⟨t1, by rw [h _ _ (by omega)]; exact t2, fun i i0 i1 => ?_⟩
      rw [h _ _ (by omega)]
      exact t3 i i0 i1
    obtain ⟨A', B0, r, a1, a2, -, -, -, a3⟩ := l_bread (raM M (fun _ _ _ => rfl)) (nbM M (fun _ _ _ => rfl)) (d + 18) (d + 19) (by omega) (by omega) lv z1 z0 hlv
    have read2 : ∀ N : zM, (∀ x y, (x = 197 ∧ y = 2) ∨ x = 198 ∨ x = 199 ∨ x = 204 → N x y = M x y) → ∃ B', (∀ x y, ¬ (x = 197 ∧ (y = 0 ∨ 2 ≤ y ∧ y ≤ 13 ∨ y = 43)) → x ≠ 216 → B' x y = N x y) ∧ B' 197 0 = 0 ∧ B' 197 2 = 0 ∧ ((r = 0 ∧ flR A' B' ∧ zEm true (d + 20) 283 [(30, 197, z0), (0, lv, z1)] N = some ((0, -2 - B' 197 11, 0), B')) ∨ (r = 1 ∧ A' 2 10 = 0 ∧ B' 197 10 = 0 ∧ (0 ≤ A' 25 4 ∧ A' 25 4 ≤ 40) ∧ B' 197 43 = A' 25 4 ∧ bkQ A' B' (A' 25 4) ∧ zEm true (d + 20) 283 [(30, 197, z0), (0, lv, z1)] N = zEv true (d + 19) 283 65 [(30, 197, z0), (0, lv, z1), (3, 0, 0), (3, 0, 0)] [] B')) := fun N h => by
      obtain ⟨A2, B', r', b1, -, b3, b4, b5, b6⟩ := l_bread (raM N (fun x y z => h x y (by omega))) (nbM N (fun x y z => h x y (by omega))) (d + 18) (d + 19) (by omega) (by omega) lv z1 z0 hlv
      have e := a1.symm.trans b1
      injection e with e
      injection e with e1 e2
      injection e1 with _ e1
      injection e1 with e1 _
      subst e1
      subst e2
      exact ⟨B', b3, b4, b5, b6⟩
    rcases a3 with ⟨rfl, c1, -⟩ | ⟨rfl, c1, -, c3, -, c5, -⟩
    · obtain ⟨M1, hM1⟩ : ∃ M1, M1 = zup (zup A' 2 1 0) 51 0 (A' 2 10) := ⟨_, rfl⟩
      have fl := c1
      unfold flR at fl
      have hcc : zEm true (d + 20) 39 [(29, 0, x0), (0, lv, y1)] M = some ((0, -2 - A' 2 11, 0), M1) := by
        rw [hM1]
        rcases hlv with rfl | rfl
        · simp (disch := first | assumption | exact zrm0 | exact zrm1 _ | exact zrm2 _ _ | exact zrm3 _ _ _ | exact zrm4 _ _ _ _ | omega) only [m39, ↓k_dp, ↓k_dn, k_dp, k_dn, k_dT, k_dF, k_ip, k_in, if_true, if_false, ne_eq, not_true_eq_false, not_false_eq_true, Int.reduceAdd, zup_a, zup_e, zup_j, z32_id, k_il1, k_ifeq, k_ic, k_iceq, k_ri, k_al0, k_gR, k_v2r, k_is2, k_pI, k_gI, k_il2, k_ifne, k_isub, k_v2, k_icne, k_goto, k_as3, k_is4, k_is5, k_il5, k_icge, k_il4, k_al3, k_v4r, k_inc5, k_v3r, k_v5, k_ifle, k_v1, zb0_some, zb1_some, e39_0, e39_1, e39_4, e39_5, e39_6, e39_9, e39_12, e39_13, e39_14, e39_17, e39_18, e39_21, e39_24, e39_25, e39_26, e39_29, e39_30, e39_33, e39_34, e39_37, e39_38, e39_41, e39_44, e39_47, e39_48, e39_51, e39_53, e39_54, e39_57, e39_60, e39_61, e39_62, e39_63, e39_66, e39_67, e39_70, e39_73, e39_74, e39_77, e39_78, e39_81, e39_84, e39_85, e39_86, e39_89, e39_90, e39_93, e39_96, e39_97, e39_100, e39_101, e39_102, e39_104, e39_105, e39_107, e39_109, e39_110, e39_113, e39_116, e39_119, e39_122, e39_124, e39_127, e39_128, e39_131, e39_134, e39_135, e39_138, e39_139, e39_141, e39_144, e39_146, e39_148, e39_151, e39_154, e39_157, e39_158, e39_161, e39_163, e39_165, e39_166, e39_169, e39_170, e39_171, e39_174, e39_175, e39_178, e39_181, e39_182, e39_183, e39_186, e39_188, e39_191, e39_192, e39_195, e39_197, e39_200, e39_201, e39_204, e39_206, a1]
        · simp (disch := first | assumption | exact zrm0 | exact zrm1 _ | exact zrm2 _ _ | exact zrm3 _ _ _ | exact zrm4 _ _ _ _ | omega) only [m39, ↓k_dp, ↓k_dn, k_dp, k_dn, k_dT, k_dF, k_ip, k_in, if_true, if_false, ne_eq, not_true_eq_false, not_false_eq_true, Int.reduceAdd, zup_a, zup_e, zup_j, z32_id, k_il1, k_ifeq, k_ic, k_iceq, k_ri, k_al0, k_gR, k_v2r, k_is2, k_pI, k_gI, k_il2, k_ifne, k_isub, k_v2, k_icne, k_goto, k_as3, k_is4, k_is5, k_il5, k_icge, k_il4, k_al3, k_v4r, k_inc5, k_v3r, k_v5, k_ifle, k_v1, zb0_some, zb1_some, e39_0, e39_1, e39_4, e39_5, e39_6, e39_9, e39_12, e39_13, e39_14, e39_17, e39_18, e39_21, e39_24, e39_25, e39_26, e39_29, e39_30, e39_33, e39_34, e39_37, e39_38, e39_41, e39_44, e39_47, e39_48, e39_51, e39_53, e39_54, e39_57, e39_60, e39_61, e39_62, e39_63, e39_66, e39_67, e39_70, e39_73, e39_74, e39_77, e39_78, e39_81, e39_84, e39_85, e39_86, e39_89, e39_90, e39_93, e39_96, e39_97, e39_100, e39_101, e39_102, e39_104, e39_105, e39_107, e39_109, e39_110, e39_113, e39_116, e39_119, e39_122, e39_124, e39_127, e39_128, e39_131, e39_134, e39_135, e39_138, e39_139, e39_141, e39_144, e39_146, e39_148, e39_151, e39_154, e39_157, e39_158, e39_161, e39_163, e39_165, e39_166, e39_169, e39_170, e39_171, e39_174, e39_175, e39_178, e39_181, e39_182, e39_183, e39_186, e39_188, e39_191, e39_192, e39_195, e39_197, e39_200, e39_201, e39_204, e39_206, a1]
      have fM1 : ∀ x y, ¬ (x = 2 ∧ 1 ≤ y ∧ y ≤ 11) → ¬ (25 ≤ x ∧ x ≤ 29) → ¬ (x = 51 ∧ y = 0) → M1 x y = M x y := fun x y z1 z2 z3 => by
        rw [hM1, zup_f z3, zup_f (by omega), a2 x y (by omega) (by omega) (by omega)]
      obtain ⟨B', b1, b2, b3, b4⟩ := read2 M1 (fun x y z => fM1 x y (by omega) (by omega) (by omega))
      have b4 := b4.resolve_right (fun z => by omega)
      obtain ⟨-, b5, b6⟩ := b4
      unfold flR at b5
      have fB : ∀ x y, ¬ (x = 2 ∧ 1 ≤ y ∧ y ≤ 11) → ¬ (25 ≤ x ∧ x ≤ 29) → ¬ (x = 51 ∧ y = 0) → ¬ (x = 197 ∧ (0 ≤ y ∧ y ≤ 13 ∨ y = 43)) → x ≠ 216 → B' x y = M x y := fun x y z1 z2 z3 z4 z5 => by
        rw [b1 x y (by omega) z5, fM1 x y z1 z2 z3]
      obtain ⟨p1, pV, p2, p3⟩ := rel_keepS (M' := B') hC hV hE hF (fun x y hx => fB x y (by omega) (by omega) (by omega) (by omega) (by omega))
      refine ⟨-2 - A' 2 11, M1, B', hcc, b6.trans (by rw [b5.2.2.2.1]), ⟨?_, ?_, fun i i0 i1 => ?_⟩, p1, pV, p2, p3, relH_fr hH (fun x y h => fB x y (by omega) (by omega) (by omega) (by omega) (by omega)) ?_, fun x y h => ?_⟩
      · rw [b1 2 1 (by omega) (by omega), hM1, zup_f (by omega), zup_e (by omega)]; omega
      · rw [b1 2 1 (by omega) (by omega), hM1, zup_f (by omega), zup_e (by omega), b3]
      · rw [fB 198 i (by omega) (by omega) (by omega) (by omega) (by omega), fB 3 i (by omega) (by omega) (by omega) (by omega) (by omega)]
        exact hA.2.2 i i0 i1
      · rw [b1 51 0 (by omega) (by omega), hM1, zup_e (by omega)]
        exact b5.1.symm
      · unfold zFB at h
        exact fB x y (by omega) (by omega) (by omega) (by omega) (by omega)
    · have hl : bLs (zvG M 30) A' (A' 25 4) := fun j j0 j1 => by
        have := bLn_of (c5 j j0 j1)
        rw [a2 30 7 (by omega) (by omega) (by omega), a2 30 8 (by omega) (by omega) (by omega), ← e7, ← e8] at this
        exact this
      obtain ⟨M1, m1, m2, m3, m4, m5⟩ := c_bookEnd d x0 lv y1 M A' hlv hG oD f0 f1 f3 a1 a2 c1 c3 hl
      have fM1 : ∀ x y, (x = 197 ∨ x = 198 ∨ x = 199 ∨ x = 202 ∨ x = 204) → M1 x y = M x y := fun x y z => m2 x y (by unfold zFC; omega)
      obtain ⟨B', b1, b2, b3, b4⟩ := read2 M1 (fun x y z => fM1 x y (by omega))
      have b4 := b4.resolve_left (fun z => by omega)
      obtain ⟨-, -, b5, -, b6, b7, b8⟩ := b4
      have k199 : ∀ y, B' 199 y = M 199 y := fun y => by rw [b1 _ _ (by omega) (by omega), fM1 _ _ (by omega)]
      have eG : zrG B' = zvG M 30 := by rw [zrG_eq (M := M) (fun y _ _ => k199 y)]; exact hC.1
      have eS : zrS B' = sgS (zvS M 37) := by rw [zrS_eq (M := M) (fun y _ _ _ => k199 y)]; exact hE.1
      have h24 : B' 197 24 = M 0 13 := by rw [b1 _ _ (by omega) (by omega), fM1 _ _ (by omega)]; exact f2
      obtain ⟨W, M2, r1, r2, r3, r4, r5⟩ := r_bookEnd d z0 lv z1 M1 B' (sgS (zvS M 37)) (zvG M 30) A' (A' 25 4) hlv hG (okD_sg oD hE.2.1.2) eG eS (by rw [k199, sPut_0 (by rw [e8]; exact hV.2.2)]; exact hE.2.2) (by rw [h24]; exact f0) (by rw [h24]; exact f1) c3 b6 (fun j j0 j1 => by
        have := b7 j j0 j1
        rw [a2 30 7 (by omega) (by omega) (by omega), a2 30 8 (by omega) (by omega) (by omega), ← e7, ← e8] at this
        exact this) b8
      obtain ⟨k1, -⟩ := bRun_ok hG hl (A' 25 4).toNat 0 (zvS M 37) oD (by omega) (by omega)
      have hsg := bRun_sg (by rw [e7]; exact hV.2.1) (by rw [e8]; exact hV.2.2) hl (A' 25 4).toNat 0 (zvS M 37) (Int.le_refl _) (by omega)
      have hrow := hsg.2 hE.2.1.2
      rw [hsg.1] at r1 r3 r4 r5
      dsimp only at r1 r3 r4 r5
      rw [sThose_sg, sg_o (by decide) (by decide)] at r3
      clear hsg
      generalize bRun (zvG M 30) A' (A' 25 4).toNat 0 (zvS M 37) = R at *
      obtain ⟨w, k, T⟩ := R
      dsimp only at *
      have fW : ∀ x y, ¬ (x = 197 ∧ (0 ≤ y ∧ y ≤ 13 ∨ y = 43 ∨ y = 44)) → x ≠ 203 → x ≠ 216 → x ≠ 217 → W x y = M1 x y := fun x y z1 z2 z3 z4 => by
        rw [r2 x y (by omega), b1 x y (by omega) z3]
      -- what the last answers say, in any memory that has them
      have fin : ∀ X : zM, (∀ x y, ¬ (x = 199 ∧ 75 ≤ y ∧ y ≤ 125) → ¬ (x = 202 ∨ (x = 197 ∧ y = 24)) → X x y = W x y) → relA X ∧ relH X := fun X hX => by
        have fX : ∀ x y, x = 2 ∨ x = 3 ∨ x = 51 ∨ x = 52 ∨ x = 53 ∨ x = 198 ∨ x = 210 ∨ x = 212 → X x y = M1 x y := fun x y z => by
          rw [hX x y (by omega) (by omega), fW x y (by omega) (by omega) (by omega) (by omega)]
        have gM : ∀ x y, x = 3 ∨ x = 52 ∨ x = 53 ∨ (x = 51 ∧ 1 ≤ y ∧ y ≤ 8) ∨ x = 198 ∨ x = 210 ∨ x = 212 → M1 x y = M x y := fun x y z => m2 x y (by unfold zFC; omega)
        refine ⟨⟨?_, ?_, fun i i0 i1 => ?_⟩, relH_told hH (fun x y z => ?_) ?_ ?_ ?_ ?_⟩
        · rw [fX 2 1 (by omega), m3.1]; omega
        · rw [fX 2 1 (by omega), m3.1, hX 197 2 (by omega) (by omega), r2 _ _ (by omega)]; exact b3
        · rw [fX 198 i (by omega), fX 3 i (by omega), gM 198 i (by omega), gM 3 i (by omega)]
          exact hA.2.2 i i0 i1
        · by_cases c : x = 197
          · rw [hX x y (by omega) (by omega), fW x y (by omega) (by omega) (by omega) (by omega), fM1 x y (by omega)]
          · rw [fX x y (by omega), gM x y (by omega)]
        · rw [hX 197 10 (by omega) (by omega), r2 _ _ (by omega), b5, fX 51 0 (by omega), m3.2.1]
        · rw [fX 51 10 (by omega)]; exact m3.2.2.1
        · rw [hX 197 44 (by omega) (by omega)]; exact r3.2.2.2.2
        · rw [hX 217 0 (by omega) (by omega), hX 217 1 (by omega) (by omega), hX 217 2 (by omega) (by omega), hX 217 3 (by omega) (by omega), fX 51 11 (by omega), fX 51 12 (by omega), fX 51 13 (by omega), fX 51 14 (by omega), m3.2.2.2.1, m3.2.2.2.2.1, m3.2.2.2.2.2.1, m3.2.2.2.2.2.2]
          exact ⟨r3.1, r3.2.1, r3.2.2.1, r3.2.2.2.1⟩
      by_cases kp : lv = 1 ∧ 0 < k
      · obtain ⟨q1, q2, q3, q4, q5⟩ := m4 kp
        obtain ⟨s1, s2, s3⟩ := r5 kp
        have h24W : W 197 24 = M 0 13 := by rw [r2 _ _ (by omega)]; exact h24
        have hsn := (mSnap_ok (M := W) (by rw [h24W]; exact f0) (by rw [h24W]; exact f1)).1
        obtain ⟨p1, p2⟩ := fin M2 (fun x y z1 z2 => by rw [s1 x y z1, hsn x y (by omega)])
        -- a memory between: the class's places as they were, all else as the reference finds it
        obtain ⟨Z, hZ⟩ : ∃ Z : zM, Z = fun x y => zif (zFC x y) (M x y) (W x y) := ⟨_, rfl⟩
        have zt' : ∀ x y, zFC x y → Z x y = M x y := fun x y z => by rw [hZ]; exact zif_t z
        have zf' : ∀ x y, ¬ zFC x y → Z x y = W x y := fun x y z => by rw [hZ]; exact zif_f z
        have zM' : ∀ x y, ((30 ≤ x ∧ x ≤ 45) ∨ x = 77 ∨ (81 ≤ x ∧ x ≤ 152) ∨ (x = 0 ∧ y = 13) ∨ (x = 199 ∧ y ≤ 125) ∨ (x = 197 ∧ y = 24) ∨ x = 202) → Z x y = M x y := fun x y h => by
          by_cases c : zFC x y
          · exact zt' x y c
          · rw [zf' x y c]
            unfold zFC at c
            by_cases c2 : x = 197
            · rw [c2, show y = 24 by omega, h24W]; exact f2.symm
            · rw [fW x y (by omega) (by omega) (by omega) (by omega), m2 x y (by unfold zFC; omega)]
        obtain ⟨hC2, hV2, hE2, hF2⟩ := rel_keepS (M' := Z) hC hV hE hF zM'
        have wM : ∀ x y, x = 77 ∨ (37 ≤ x ∧ x ≤ 45) ∨ (81 ≤ x ∧ x ≤ 152) ∨ (x = 0 ∧ y = 13) → W x y = M1 x y := fun x y z => fW x y (by omega) (by omega) (by omega) (by omega)
        have z13 : Z 0 13 = M 0 13 := zM' _ _ (by omega)
        have e30 : zvG Z 30 = zvG M 30 := zvG_eq (fun x y h1 h2 => zM' x y (by omega))
        have e37 : zvS Z 37 = zvS M 37 := zvS_eq (fun x y h1 h2 => zM' x y (by omega))
        have w37 : zvS W 37 = zvS M1 37 := zvS_eq (fun x y h1 h2 => wM x y (by omega))
        have okW : okP W := okP_eq (fun y => wM _ _ (by omega)) q2
        have w13 : W 0 13 = M1 0 13 := wM _ _ (by omega)
        have wv : ∀ i, 0 ≤ i → i < 8 → zvS W (W 77 i) = zvS M1 (M1 77 i) := fun i i0 i1 => by
          have hq := q2.1 i i0 i1
          rw [wM 77 i (by omega)]
          exact zvS_eq (fun x y h1 h2 => wM x y (by omega))
        have zv : ∀ i, 0 ≤ i → i < 8 → zvS Z (Z 77 i) = zvS M (M 77 i) := fun i i0 i1 => by
          have hq := f3.1 i i0 i1
          rw [zM' 77 i (by omega)]
          exact zvS_eq (fun x y h1 h2 => zM' x y (by omega))
        have b13 : 1 ≤ M1 0 13 ∧ M1 0 13 ≤ 8 := by rw [q3]; split <;> omega
        have s1' : ∀ x y, ¬ (x = 199 ∧ 75 ≤ y ∧ y ≤ 125) → ¬ (x = 197 ∧ y = 40) → M2 x y = mSnap (zup W 197 0 0) x y := fun x y h1 h2 => by
          have : zup W 197 0 0 = W := zup_id (by rw [r2 _ _ (by omega)]; exact b2)
          rw [this]
          exact s1 x y h1
        obtain ⟨t1, tV, t2, t3, t4⟩ := pair_doneBS (M := Z) (S' := T) (M1 := W) (M2 := M2) hC2 hV2 hE2 hF2 (fun x y _ h2 => (zf' x y h2).symm) (by rw [w37]; exact q1) okW (by rw [w13, z13]; exact q3) (by rw [w13, wv _ (by omega) (by omega), e37]; exact q4) (fun i i0 i1 => by
          rw [w13] at i1
          have hx : 0 ≤ (if M 0 13 = 8 then i + 1 else i) ∧ (if M 0 13 = 8 then i + 1 else i) < 8 := by
            by_cases c : M 0 13 = 8
            · rw [if_pos c] at q3 ⊢; omega
            · rw [if_neg c] at q3 ⊢; omega
          rw [wv i i0 (by omega), z13, zv _ hx.1 hx.2]
          exact q5 i i0 i1) s1' s2 (by rw [s3, sPut_0 (by rw [e8]; exact hV.2.2)]; rfl) (by rw [e30]; exact ⟨k1.2, hrow⟩)
        refine ⟨_, M1, M2, m1, r1, p1, t1, tV, t2, t3, p2, fun x y h => ?_⟩
        unfold zFB at h
        have h1 : ¬ zFD x y := fun z => h (Or.inl z)
        have h2 : ¬ zFC x y := fun z => h1 (Or.inl (Or.inl z))
        have h3 : ¬ zFR x y := fun z => h1 (Or.inl (Or.inr z))
        unfold zFD at h1
        unfold zFR at h3
        rw [t4 x y (fun z => h (Or.inl z)), zf' x y h2, fW x y (by omega) (by omega) (by omega) (by omega), m2 x y (fun z => z.elim h2 (fun z => by omega))]
      · have e2 := r4 kp
        have m5' := m5 kp
        rw [e2] at r1
        obtain ⟨p1, p2⟩ := fin W (fun _ _ _ _ => rfl)
        have kM : ∀ x y, ¬ ((59 ≤ x ∧ x ≤ 76) ∨ (x = 0 ∧ y = 14) ∨ (x = 2 ∧ 1 ≤ y ∧ y ≤ 11) ∨ (25 ≤ x ∧ x ≤ 29) ∨ (x = 51 ∧ (y = 0 ∨ 10 ≤ y ∧ y ≤ 14))) → M1 x y = M x y := fun x y z => by
          by_cases c : zFC x y
          · exact m5' x y c (by omega)
          · exact m2 x y (fun z2 => z2.elim c (fun z3 => by omega))
        obtain ⟨t1, tV, t2, t3⟩ := rel_keepS (M' := W) hC hV hE hF (fun x y h => by
          rw [fW x y (by omega) (by omega) (by omega) (by omega), kM x y (by omega)])
        refine ⟨_, M1, W, m1, r1, p1, t1, tV, t2, t3, p2, fun x y h => ?_⟩
        unfold zFB zFD at h
        rw [fW x y (by omega) (by omega) (by omega) (by omega), kM x y (by omega)]
  · refine ⟨-1000, M, zup M 197 0 0, ?_, ?_, ?_, ?_⟩
    · have c0 : lv ≠ 0 := fun z => hlv (Or.inl z)
      have c1 : lv ≠ 1 := fun z => hlv (Or.inr z)
      simp (disch := first | assumption | exact zrm0 | exact zrm1 _ | exact zrm2 _ _ | exact zrm3 _ _ _ | exact zrm4 _ _ _ _ | omega) only [m39, ↓k_dp, ↓k_dn, k_dp, k_dn, k_dT, k_dF, k_ip, k_in, if_true, if_false, ne_eq, not_true_eq_false, not_false_eq_true, Int.reduceAdd, zup_a, zup_e, zup_j, z32_id, k_il1, k_ifeq, k_ic, k_iceq, k_ri, k_al0, k_gR, k_v2r, k_is2, k_pI, k_gI, k_il2, k_ifne, k_isub, k_v2, k_icne, k_goto, k_as3, k_is4, k_is5, k_il5, k_icge, k_il4, k_al3, k_v4r, k_inc5, k_v3r, k_v5, k_ifle, k_v1, zb0_some, zb1_some, e39_0, e39_1, e39_4, e39_5, e39_6, e39_9, e39_12, e39_13, e39_14, e39_17, e39_18, e39_21, e39_24, e39_25, e39_26, e39_29, e39_30, e39_33, e39_34, e39_37, e39_38, e39_41, e39_44, e39_47, e39_48, e39_51, e39_53, e39_54, e39_57, e39_60, e39_61, e39_62, e39_63, e39_66, e39_67, e39_70, e39_73, e39_74, e39_77, e39_78, e39_81, e39_84, e39_85, e39_86, e39_89, e39_90, e39_93, e39_96, e39_97, e39_100, e39_101, e39_102, e39_104, e39_105, e39_107, e39_109, e39_110, e39_113, e39_116, e39_119, e39_122, e39_124, e39_127, e39_128, e39_131, e39_134, e39_135, e39_138, e39_139, e39_141, e39_144, e39_146, e39_148, e39_151, e39_154, e39_157, e39_158, e39_161, e39_163, e39_165, e39_166, e39_169, e39_170, e39_171, e39_174, e39_175, e39_178, e39_181, e39_182, e39_183, e39_186, e39_188, e39_191, e39_192, e39_195, e39_197, e39_200, e39_201, e39_204, e39_206]
    · have c : ¬ (0 ≤ lv ∧ lv ≤ 1) := by omega
      simp (disch := first | assumption | exact zrm0 | exact zrm1 _ | exact zrm2 _ _ | exact zrm3 _ _ _ | exact zrm4 _ _ _ _ | omega) only [m283, ↓k_dp, ↓k_dn, k_dp, k_dn, k_dT, k_dF, k_ip, k_in, if_true, if_false, ne_eq, not_true_eq_false, not_false_eq_true, Int.reduceAdd, zup_a, zup_e, zup_j, z32_id, k_al0, k_ic, k_pI, k_il1, k_s3r, k_ifne, k_ri, k_v2, k_gI, k_ifeq, k_v1r, k_isub, k_dup, k_iadd, k_goto, k_v1, k_is2, k_is3, k_il2, k_icge, k_il3, k_imul, k_v2r, k_inc2, k_gR, k_ist, k_ild, k_ildS, k_ildW, k_pZ, k_icne, k_ifle, zb0_some, zb1_some, e283_0, e283_1, e283_2, e283_5, e283_6, e283_7, e283_8, e283_11, e283_14, e283_17, e283_18, e283_19, e283_22, e283_25, e283_26, e283_27, e283_30, e283_31, e283_34, e283_37, e283_38, e283_41, e283_44, e283_46, e283_47, e283_50, e283_51, e283_52, e283_53, e283_54, e283_57, e283_58, e283_59, e283_62, e283_65, e283_66, e283_69, e283_70, e283_71, e283_72, e283_73, e283_74, e283_75, e283_78, e283_81, e283_82, e283_85, e283_86, e283_87, e283_88, e283_89, e283_92, e283_93, e283_94, e283_97, e283_100, e283_103, e283_104, e283_107, e283_108, e283_109, e283_110, e283_111, e283_114, e283_115, e283_116, e283_117, e283_118, e283_121, e283_122, e283_123, e283_126, e283_128, e283_129, e283_130, e283_131, e283_134, e283_135, e283_136, e283_137, e283_140, e283_141, e283_142, e283_143, e283_146, e283_147, e283_148, e283_149, e283_152, e283_153, e283_156, e283_157, e283_160, e283_161, e283_164, e283_165, e283_168, e283_169, e283_172, e283_173, r_isIn, if_neg c]
    · refine ⟨by rw [zup_a (by omega)]; exact hA.1, by rw [zup_j (by omega), zup_a (by omega)]; exact hA.2.1, fun i i0 i1 => ?_⟩
      rw [zup_a (by omega), zup_a (by omega)]
      exact hA.2.2 i i0 i1
    · obtain ⟨t1, tV, t2, t3⟩ := rel_keepS (M' := zup M 197 0 0) hC hV hE hF (fun x y h => zup_f (by omega))
      refine ⟨t1, tV, t2, t3, relH_fr hH (fun x y h => zup_f (by omega)) ?_, fun x y h => ?_⟩
      · rw [zup_j (by omega), zup_a (by omega)]; exact hH.1
      · unfold zFB at h
        exact zup_f (by omega)
