/-! the pair book -/
theorem m71 (ph : Bool) (d : Nat) (a x0 p0 y0 p1 y1 p2 y2 p3 y3 : Int) (M : zM) : zEm ph (d + 1) 71 [(22, a, x0), (0, p0, y0), (0, p1, y1), (0, p2, y2), (0, p3, y3)] M = zEv ph d 71 0 [(22, a, x0), (0, p0, y0), (0, p1, y1), (0, p2, y2), (0, p3, y3)] [] M := rfl
theorem e71_0 (ph : Bool) (d : Nat) (L st : List zV) (M : zM) : zEv ph d 71 0 L st M = zcont ph d 71 (zstep ph (zEm ph d) 4 1 0 [0] L st M) := zEv_step rfl
theorem e71_1 (ph : Bool) (d : Nat) (L st : List zV) (M : zM) : zEv ph d 71 1 L st M = zcont ph d 71 (zstep ph (zEm ph d) 0 2 0 [1] L st M) := zEv_step rfl
theorem e71_2 (ph : Bool) (d : Nat) (L st : List zV) (M : zM) : zEv ph d 71 2 L st M = zcont ph d 71 (zstep ph (zEm ph d) 65 5 0 [22, 10, 0, 1] L st M) := zEv_step rfl
theorem e71_5 (ph : Bool) (d : Nat) (L st : List zV) (M : zM) : zEv ph d 71 5 L st M = zcont ph d 71 (zstep ph (zEm ph d) 4 6 0 [0] L st M) := zEv_step rfl
theorem e71_6 (ph : Bool) (d : Nat) (L st : List zV) (M : zM) : zEv ph d 71 6 L st M = zcont ph d 71 (zstep ph (zEm ph d) 2 7 0 [1] L st M) := zEv_step rfl
theorem e71_7 (ph : Bool) (d : Nat) (L st : List zV) (M : zM) : zEv ph d 71 7 L st M = zcont ph d 71 (zstep ph (zEm ph d) 65 10 0 [22, 11] L st M) := zEv_step rfl
theorem e71_10 (ph : Bool) (d : Nat) (L st : List zV) (M : zM) : zEv ph d 71 10 L st M = zcont ph d 71 (zstep ph (zEm ph d) 4 11 0 [0] L st M) := zEv_step rfl
theorem e71_11 (ph : Bool) (d : Nat) (L st : List zV) (M : zM) : zEv ph d 71 11 L st M = zcont ph d 71 (zstep ph (zEm ph d) 2 12 0 [2] L st M) := zEv_step rfl
theorem e71_12 (ph : Bool) (d : Nat) (L st : List zV) (M : zM) : zEv ph d 71 12 L st M = zcont ph d 71 (zstep ph (zEm ph d) 65 15 0 [22, 12] L st M) := zEv_step rfl
theorem e71_15 (ph : Bool) (d : Nat) (L st : List zV) (M : zM) : zEv ph d 71 15 L st M = zcont ph d 71 (zstep ph (zEm ph d) 4 16 0 [0] L st M) := zEv_step rfl
theorem e71_16 (ph : Bool) (d : Nat) (L st : List zV) (M : zM) : zEv ph d 71 16 L st M = zcont ph d 71 (zstep ph (zEm ph d) 2 17 0 [3] L st M) := zEv_step rfl
theorem e71_17 (ph : Bool) (d : Nat) (L st : List zV) (M : zM) : zEv ph d 71 17 L st M = zcont ph d 71 (zstep ph (zEm ph d) 65 20 0 [22, 13] L st M) := zEv_step rfl
theorem e71_20 (ph : Bool) (d : Nat) (L st : List zV) (M : zM) : zEv ph d 71 20 L st M = zcont ph d 71 (zstep ph (zEm ph d) 4 21 0 [0] L st M) := zEv_step rfl
theorem e71_21 (ph : Bool) (d : Nat) (L st : List zV) (M : zM) : zEv ph d 71 21 L st M = zcont ph d 71 (zstep ph (zEm ph d) 2 23 0 [4] L st M) := zEv_step rfl
theorem e71_23 (ph : Bool) (d : Nat) (L st : List zV) (M : zM) : zEv ph d 71 23 L st M = zcont ph d 71 (zstep ph (zEm ph d) 65 26 0 [22, 14] L st M) := zEv_step rfl
theorem e71_26 (ph : Bool) (d : Nat) (L st : List zV) (M : zM) : zEv ph d 71 26 L st M = zcont ph d 71 (zstep ph (zEm ph d) 83 27 0 [] L st M) := zEv_step rfl
theorem s_keepBook (D : Nat) (hD : 1 ≤ D) (x0 w y k y1 t y2 c y3 : Int) (A : zM) : zEm true D 71 [(22, 51, x0), (0, w, y), (0, k, y1), (0, t, y2), (0, c, y3)] A = some ((98, 0, 0), zup (zup (zup (zup (zup A 51 10 1) 51 11 w) 51 12 k) 51 13 t) 51 14 c) := by
  obtain ⟨d, rfl⟩ : ∃ d, D = d + 1 := ⟨D - 1, by omega⟩
  simp (disch := first | assumption | exact zrm0 | exact zrm1 _ | exact zrm2 _ _ | exact zrm3 _ _ _ | exact zrm4 _ _ _ _ | omega) only [m71, ↓k_dp, ↓k_dn, k_dp, k_dn, k_dT, k_dF, k_ip, k_in, if_true, if_false, ne_eq, not_true_eq_false, not_false_eq_true, Int.reduceAdd, zup_a, zup_e, zup_j, z32_id, k_al0, k_ic, k_pZ, k_il1, k_pI, k_il2, k_il3, k_il4, k_rv, e71_0, e71_1, e71_2, e71_5, e71_6, e71_7, e71_10, e71_11, e71_12, e71_15, e71_16, e71_17, e71_20, e71_21, e71_23, e71_26]
theorem relH_told {M M' : zM} (h : relH M) (a : ∀ x y, (x = 51 ∧ 1 ≤ y ∧ y ≤ 8) ∨ x = 52 ∨ x = 53 ∨ x = 210 ∨ x = 212 ∨ (x = 197 ∧ (y = 25 ∨ y = 26 ∨ y = 29 ∨ y = 33 ∨ y = 36 ∨ y = 37)) → M' x y = M x y) (e : M' 197 10 = M' 51 0) (b1 : M' 51 10 = 1) (b2 : M' 197 44 = 1) (b3 : M' 217 0 = M' 51 11 ∧ M' 217 1 = M' 51 12 ∧ M' 217 2 = M' 51 13 ∧ M' 217 3 = M' 51 14) : relH M' := by
  obtain ⟨-, h2, h3, h4, h5, h6, h7, -⟩ := h
  have r52 : M' 52 = M 52 := funext fun i => a _ _ (by omega)
  have r53 : M' 53 = M 53 := funext fun i => a _ _ (by omega)
  have r210 : M' 210 = M 210 := funext fun i => a _ _ (by omega)
  have r212 : M' 212 = M 212 := funext fun i => a _ _ (by omega)
  refine ⟨e, ?_, ?_, ?_, ?_, ?_, ?_, Or.inr b1, by rw [b1, b2], fun _ => b3⟩
  · rw [a 197 25 (by omega), a 51 1 (by omega)]; exact h2
  · rw [a 197 26 (by omega), a 51 2 (by omega)]; exact h3
  · rw [a 197 29 (by omega), a 51 4 (by omega), r52, r210]; exact h4
  · rw [a 197 33 (by omega), a 51 6 (by omega), r53, r212]; exact h5
  · rw [a 197 36 (by omega), a 51 7 (by omega)]; exact h6
  · rw [a 197 37 (by omega), a 51 8 (by omega)]; exact h7
def zFB (x y : Int) : Prop := zFD x y ∨ (x = 2 ∧ 1 ≤ y ∧ y ≤ 11) ∨ (25 ≤ x ∧ x ≤ 29) ∨ (x = 51 ∧ (y = 0 ∨ 10 ≤ y ∧ y ≤ 14)) ∨ (x = 197 ∧ (0 ≤ y ∧ y ≤ 13 ∨ y = 43 ∨ y = 44)) ∨ x = 216 ∨ x = 217
def zPairB (M : zM) (cc : zO) (rc : zM → zO) : Prop := ∃ v M1 M2, cc = some ((0, v, 0), M1) ∧ rc M1 = some ((0, v, 0), M2) ∧ relA M2 ∧ relC M2 ∧ relE M2 ∧ relF M2 ∧ relH M2 ∧ ∀ x y, ¬ zFB x y → M2 x y = M x y
/-- what the class has behind a book without a fault: the book is kept, or all is as it was -/
def bkEnd (M M1 T' : zM) (w k : Int) (kp : Prop) : Prop := (∀ x y, ¬ (zFC x y ∨ (x = 0 ∧ y = 14) ∨ (59 ≤ x ∧ x ≤ 76) ∨ (x = 2 ∧ 1 ≤ y ∧ y ≤ 11) ∨ (25 ≤ x ∧ x ≤ 29) ∨ (x = 51 ∧ (y = 0 ∨ 10 ≤ y ∧ y ≤ 14))) → M1 x y = M x y) ∧ (M1 2 1 = 0 ∧ M1 51 0 = 0 ∧ M1 51 10 = 1 ∧ M1 51 11 = w ∧ M1 51 12 = k ∧ M1 51 13 = T' 0 10 ∧ M1 51 14 = sThose T' (zvG M 30) 1) ∧ (kp → zvS M1 37 = T' ∧ okP M1 ∧ M1 0 13 = (if M 0 13 = 8 then 8 else M 0 13 + 1) ∧ zvS M1 (M1 77 (M1 0 13 - 1)) = zvS M 37 ∧ ∀ i, 0 ≤ i → i < M1 0 13 - 1 → zvS M1 (M1 77 i) = zvS M (M 77 (if M 0 13 = 8 then i + 1 else i))) ∧ (¬ kp → ∀ x y, zFC x y → ¬ (59 ≤ x ∧ x ≤ 67) → M1 x y = M x y)
theorem c_bookEnd (d : Nat) (x0 lv y1 : Int) (M A' : zM) (hlv : lv = 0 ∨ lv = 1) (hG : okG (zvG M 30)) (hT : okD (zvS M 37) (zvG M 30)) (f0 : 0 ≤ M 0 13) (f1 : M 0 13 ≤ 8) (hp : okP M) (hr : zEm true (d + 19) 98 [(24, 1, 0), (28, 30, 0)] M = some ((0, 1, 0), A')) (fA : ∀ x y, ¬ (x = 2 ∧ 2 ≤ y ∧ y ≤ 11) → ¬ (x = 25 ∧ y = 4) → ¬ (26 ≤ x ∧ x ≤ 29) → A' x y = M x y) (h10 : A' 2 10 = 0) (hK : 0 ≤ A' 25 4 ∧ A' 25 4 ≤ 40) (hl : bLs (zvG M 30) A' (A' 25 4)) : ∃ M1, zEm true (d + 20) 39 [(29, 0, x0), (0, lv, y1)] M = some ((0, if (bRun (zvG M 30) A' (A' 25 4).toNat 0 (zvS M 37)).1 = 0 then -1 else (bRun (zvG M 30) A' (A' 25 4).toNat 0 (zvS M 37)).2.1, 0), M1) ∧ bkEnd M M1 (bRun (zvG M 30) A' (A' 25 4).toNat 0 (zvS M 37)).2.2 (bRun (zvG M 30) A' (A' 25 4).toNat 0 (zvS M 37)).1 (bRun (zvG M 30) A' (A' 25 4).toNat 0 (zvS M 37)).2.1 (lv = 1 ∧ 0 < (bRun (zvG M 30) A' (A' 25 4).toNat 0 (zvS M 37)).2.1) := by
  obtain ⟨N1, hN1⟩ : ∃ N1, N1 = zup (zup A' 2 1 0) 51 0 0 := ⟨_, rfl⟩
  obtain ⟨N2, hN2⟩ : ∃ N2, N2 = cpS (cpS N1 59 37) 68 37 := ⟨_, rfl⟩
  have fN1 : ∀ x y, ¬ (x = 2 ∧ y = 1) → ¬ (x = 51 ∧ y = 0) → N1 x y = A' x y := fun x y z1 z2 => by rw [hN1, zup_f z2, zup_f z1]
  have fN2 : ∀ x y, ¬ (59 ≤ x ∧ x ≤ 76) → N2 x y = N1 x y := fun x y z1 => by rw [hN2, cpS_o (by omega), cpS_o (by omega)]
  have eG : zvG N2 30 = zvG M 30 := zvG_eq (fun x y h1 h2 => by rw [fN2 x y (by omega), fN1 x y (by omega) (by omega), fA x y (by omega) (by omega) (by omega)])
  have s37 : zvS N2 37 = zvS M 37 := zvS_eq (fun x y h1 h2 => by rw [fN2 x y (by omega), fN1 x y (by omega) (by omega), fA x y (by omega) (by omega) (by omega)])
  have s68 : zvS N2 68 = zvS M 37 := by
    rw [hN2, zvS_cp (by omega) (by omega)]
    exact zvS_eq (fun x y h1 h2 => by rw [cpS_o (by omega), fN1 x y (by omega) (by omega), fA x y (by omega) (by omega) (by omega)])
  have s59 : zvS N2 59 = zvS M 37 := by
    rw [hN2, zvS_cpo (by omega), zvS_cp (by omega) (by omega)]
    exact zvS_eq (fun x y h1 h2 => by rw [fN1 x y (by omega) (by omega), fA x y (by omega) (by omega) (by omega)])
  obtain ⟨a, ha⟩ : ∃ a, a = (if lv = 1 then (37 : Int) else 68) := ⟨_, rfl⟩
  have ha37 : a = 37 ∧ lv = 1 ∨ a = 68 ∧ lv = 0 := by
    rcases hlv with h | h
    · right; rw [ha, h]; exact ⟨rfl, rfl⟩
    · left; rw [ha, h]; exact ⟨rfl, rfl⟩
  have sa : zvS N2 a = zvS M 37 := by
    rcases ha37 with ⟨h, -⟩ | ⟨h, -⟩
    · rw [h]; exact s37
    · rw [h]; exact s68
  have pa : zput N2 a (zvS M 37) = N2 := by rw [← sa, zput_self]
  have fr : ∀ x, 25 ≤ x → x ≤ 29 → N2 x = A' x := fun x h1 h2 => funext fun y => by rw [fN2 x y (by omega), fN1 x y (by omega) (by omega)]
  have bR : ∀ (n : Nat) (k : Int) (T : zM), bRun (zvG M 30) N2 n k T = bRun (zvG M 30) A' n k T := by
    intro n
    induction n with
    | zero => intro k T; rfl
    | succ n ih =>
      intro k T
      rw [bRun, bRun, fr 26 (by omega) (by omega), fr 27 (by omega) (by omega), fr 28 (by omega) (by omega), fr 29 (by omega) (by omega)]
      rw [ih]
  have hl2 : bLs (zvG N2 30) N2 (A' 25 4) := by
    unfold bLs
    rw [eG, fr 26 (by omega) (by omega), fr 27 (by omega) (by omega), fr 28 (by omega) (by omega), fr 29 (by omega) (by omega)]
    exact hl
  have hK2 : N2 25 4 = A' 25 4 := by rw [fr 25 (by omega) (by omega)]
  have cl := c_liveL (d + 13) x0 lv y1 a (A' 25 4) N2 (by omega) (by rw [eG]; exact hG) hK2 hK.2 hl2 (A' 25 4).toNat 0 (zvS M 37) (by rw [eG]; exact hT) (by omega) (by omega)
  rw [eG, pa, bR] at cl
  obtain ⟨k1, k2, k3, k4, k5, k6⟩ := bRun_ok hG hl (A' 25 4).toNat 0 (zvS M 37) hT (by omega) (by omega)
  generalize bRun (zvG M 30) A' (A' 25 4).toNat 0 (zvS M 37) = R at *
  obtain ⟨w, k, T⟩ := R
  dsimp only at *
  have hz : zt T = T := k1.1
  have hq := s_questionsThatAre (d + 18) a 0 30 0 1 0 (zput N2 a T) (by rw [zvG_puto (by omega), eG]; exact hG)
  rw [zvS_put, hz, zvG_puto (by omega), eG] at hq
  have ht : zput N2 a T a 10 = T 0 10 := zput_0 (by omega) (by omega)
  have hkb := s_keepBook (d + 19) (by omega) 0 w 0 k 0 (T 0 10) 0 (sThose T (zvG M 30) 1) 0 (zput N2 a T)
  obtain ⟨N3, hN3⟩ : ∃ N3, N3 = zup (zup (zup (zup (zup N2 51 10 1) 51 11 w) 51 12 k) 51 13 (T 0 10)) 51 14 (sThose T (zvG M 30) 1) := ⟨_, rfl⟩
  rw [zput_uo (by omega), zput_uo (by omega), zput_uo (by omega), zput_uo (by omega), zput_uo (by omega), ← hN3] at hkb
  have fN3 : ∀ x y, ¬ (x = 51 ∧ 10 ≤ y ∧ y ≤ 14) → N3 x y = N2 x y := fun x y z => by rw [hN3, zup_f (by omega), zup_f (by omega), zup_f (by omega), zup_f (by omega), zup_f (by omega)]
  have vN3 : N3 51 10 = 1 ∧ N3 51 11 = w ∧ N3 51 12 = k ∧ N3 51 13 = T 0 10 ∧ N3 51 14 = sThose T (zvG M 30) 1 := by
    rw [hN3]
    refine ⟨?_, ?_, ?_, ?_, ?_⟩
    · rw [zup_f (by omega), zup_f (by omega), zup_f (by omega), zup_f (by omega), zup_e (by omega)]
    · rw [zup_f (by omega), zup_f (by omega), zup_f (by omega), zup_e (by omega)]
    · rw [zup_f (by omega), zup_f (by omega), zup_e (by omega)]
    · rw [zup_f (by omega), zup_e (by omega)]
    · rw [zup_e (by omega)]
  have gN3 : ∀ x y, ¬ ((59 ≤ x ∧ x ≤ 76) ∨ (x = 2 ∧ 1 ≤ y ∧ y ≤ 11) ∨ (25 ≤ x ∧ x ≤ 29) ∨ (x = 51 ∧ (y = 0 ∨ 10 ≤ y ∧ y ≤ 14))) → N3 x y = M x y := fun x y z => by
    rw [fN3 x y (by omega), fN2 x y (by omega), fN1 x y (by omega) (by omega), fA x y (by omega) (by omega) (by omega)]
  have n21 : N3 2 1 = 0 := by rw [fN3 _ _ (by omega), fN2 _ _ (by omega), hN1, zup_f (by omega), zup_e (by omega)]
  have n510 : N3 51 0 = 0 := by rw [fN3 _ _ (by omega), fN2 _ _ (by omega), hN1, zup_e (by omega)]
  -- up to the end of the lines
  have run : zEm true (d + 20) 39 [(29, 0, x0), (0, lv, y1)] M = zEv true (d + 19) 39 157 [(29, 0, x0), (0, lv, y1), (0, 1, 0), (26, a, 0), (0, w, 0), (0, k, 0)] [] (zput N2 a T) := by
    have hN12 := hN2
    rw [hN1] at hN12
    rw [hN12] at cl
    rw [hN12, ← cl]
    rcases ha37 with ⟨rfl, rfl⟩ | ⟨rfl, rfl⟩
    · simp (disch := first | assumption | exact zrm0 | exact zrm1 _ | exact zrm2 _ _ | exact zrm3 _ _ _ | exact zrm4 _ _ _ _ | omega) only [m39, ↓k_dp, ↓k_dn, k_dp, k_dn, k_dT, k_dF, k_ip, k_in, if_true, if_false, ne_eq, not_true_eq_false, not_false_eq_true, Int.reduceAdd, zup_a, zup_e, zup_j, z32_id, k_il1, k_ifeq, k_ic, k_iceq, k_ri, k_al0, k_gR, k_v2r, k_is2, k_pI, k_gI, k_il2, k_ifne, k_isub, k_v2, k_icne, k_goto, k_as3, k_is4, k_is5, k_il5, k_icge, k_il4, k_al3, k_v4r, k_inc5, k_v3r, k_v5, k_ifle, k_v1, zb0_some, zb1_some, e39_0, e39_1, e39_4, e39_5, e39_6, e39_9, e39_12, e39_13, e39_14, e39_17, e39_18, e39_21, e39_24, e39_25, e39_26, e39_29, e39_30, e39_33, e39_34, e39_37, e39_38, e39_41, e39_44, e39_47, e39_48, e39_51, e39_53, e39_54, e39_57, e39_60, e39_61, e39_62, e39_63, e39_66, e39_67, e39_70, e39_73, e39_74, e39_77, e39_78, e39_81, e39_84, e39_85, e39_86, e39_89, e39_90, e39_93, e39_96, e39_97, e39_100, e39_101, e39_102, e39_104, e39_105, e39_109, e39_110, e39_113, e39_116, e39_119, e39_122, e39_124, e39_127, e39_128, e39_131, e39_134, e39_135, e39_138, e39_139, e39_141, e39_144, e39_146, e39_148, e39_151, e39_154, e39_157, e39_158, e39_161, e39_163, e39_165, e39_166, e39_169, e39_170, e39_171, e39_174, e39_175, e39_178, e39_181, e39_182, e39_183, e39_186, e39_188, e39_191, e39_192, e39_195, e39_197, e39_200, e39_201, e39_204, e39_206, hr, h10, s_copyS]
    · simp (disch := first | assumption | exact zrm0 | exact zrm1 _ | exact zrm2 _ _ | exact zrm3 _ _ _ | exact zrm4 _ _ _ _ | omega) only [m39, ↓k_dp, ↓k_dn, k_dp, k_dn, k_dT, k_dF, k_ip, k_in, if_true, if_false, ne_eq, not_true_eq_false, not_false_eq_true, Int.reduceAdd, zup_a, zup_e, zup_j, z32_id, k_il1, k_ifeq, k_ic, k_iceq, k_ri, k_al0, k_gR, k_v2r, k_is2, k_pI, k_gI, k_il2, k_ifne, k_isub, k_v2, k_icne, k_goto, k_as3, k_is4, k_is5, k_il5, k_icge, k_il4, k_al3, k_v4r, k_inc5, k_v3r, k_v5, k_ifle, k_v1, zb0_some, zb1_some, e39_0, e39_1, e39_4, e39_5, e39_6, e39_9, e39_12, e39_13, e39_14, e39_17, e39_18, e39_21, e39_24, e39_25, e39_26, e39_29, e39_30, e39_33, e39_34, e39_37, e39_38, e39_41, e39_44, e39_47, e39_48, e39_51, e39_53, e39_54, e39_57, e39_60, e39_61, e39_62, e39_63, e39_66, e39_67, e39_70, e39_73, e39_74, e39_77, e39_78, e39_81, e39_84, e39_85, e39_86, e39_89, e39_90, e39_93, e39_96, e39_97, e39_100, e39_101, e39_102, e39_104, e39_105, e39_109, e39_110, e39_113, e39_116, e39_119, e39_122, e39_124, e39_127, e39_128, e39_131, e39_134, e39_135, e39_138, e39_139, e39_141, e39_144, e39_146, e39_148, e39_151, e39_154, e39_157, e39_158, e39_161, e39_163, e39_165, e39_166, e39_169, e39_170, e39_171, e39_174, e39_175, e39_178, e39_181, e39_182, e39_183, e39_186, e39_188, e39_191, e39_192, e39_195, e39_197, e39_200, e39_201, e39_204, e39_206, hr, h10, s_copyS]
  have ret : ∀ X : zM, zEv true (d + 19) 39 195 [(29, 0, x0), (0, lv, y1), (0, 1, 0), (26, a, 0), (0, w, 0), (0, k, 0)] [] X = some ((0, if w = 0 then -1 else k, 0), X) := fun X => by
    by_cases c : w = 0
    · rw [if_pos c]
      simp (disch := first | assumption | exact zrm0 | exact zrm1 _ | exact zrm2 _ _ | exact zrm3 _ _ _ | exact zrm4 _ _ _ _ | omega) only [m39, ↓k_dp, ↓k_dn, k_dp, k_dn, k_dT, k_dF, k_ip, k_in, if_true, if_false, ne_eq, not_true_eq_false, not_false_eq_true, Int.reduceAdd, zup_a, zup_e, zup_j, z32_id, k_il1, k_ifeq, k_ic, k_iceq, k_ri, k_al0, k_gR, k_v2r, k_is2, k_pI, k_gI, k_il2, k_ifne, k_isub, k_v2, k_icne, k_goto, k_as3, k_is4, k_is5, k_il5, k_icge, k_il4, k_al3, k_v4r, k_inc5, k_v3r, k_v5, k_ifle, k_v1, zb0_some, zb1_some, e39_0, e39_1, e39_4, e39_5, e39_6, e39_9, e39_12, e39_13, e39_14, e39_17, e39_18, e39_21, e39_24, e39_25, e39_26, e39_29, e39_30, e39_33, e39_34, e39_37, e39_38, e39_41, e39_44, e39_47, e39_48, e39_51, e39_53, e39_54, e39_57, e39_60, e39_61, e39_62, e39_63, e39_66, e39_67, e39_70, e39_73, e39_74, e39_77, e39_78, e39_81, e39_84, e39_85, e39_86, e39_89, e39_90, e39_93, e39_96, e39_97, e39_100, e39_101, e39_102, e39_104, e39_105, e39_107, e39_109, e39_110, e39_113, e39_116, e39_119, e39_122, e39_124, e39_127, e39_128, e39_131, e39_134, e39_135, e39_138, e39_139, e39_141, e39_144, e39_146, e39_148, e39_151, e39_154, e39_157, e39_158, e39_161, e39_163, e39_165, e39_166, e39_169, e39_170, e39_171, e39_174, e39_175, e39_178, e39_181, e39_182, e39_183, e39_186, e39_188, e39_191, e39_192, e39_195, e39_197, e39_200, e39_201, e39_204, e39_206]
    · rw [if_neg c]
      simp (disch := first | assumption | exact zrm0 | exact zrm1 _ | exact zrm2 _ _ | exact zrm3 _ _ _ | exact zrm4 _ _ _ _ | omega) only [m39, ↓k_dp, ↓k_dn, k_dp, k_dn, k_dT, k_dF, k_ip, k_in, if_true, if_false, ne_eq, not_true_eq_false, not_false_eq_true, Int.reduceAdd, zup_a, zup_e, zup_j, z32_id, k_il1, k_ifeq, k_ic, k_iceq, k_ri, k_al0, k_gR, k_v2r, k_is2, k_pI, k_gI, k_il2, k_ifne, k_isub, k_v2, k_icne, k_goto, k_as3, k_is4, k_is5, k_il5, k_icge, k_il4, k_al3, k_v4r, k_inc5, k_v3r, k_v5, k_ifle, k_v1, zb0_some, zb1_some, e39_0, e39_1, e39_4, e39_5, e39_6, e39_9, e39_12, e39_13, e39_14, e39_17, e39_18, e39_21, e39_24, e39_25, e39_26, e39_29, e39_30, e39_33, e39_34, e39_37, e39_38, e39_41, e39_44, e39_47, e39_48, e39_51, e39_53, e39_54, e39_57, e39_60, e39_61, e39_62, e39_63, e39_66, e39_67, e39_70, e39_73, e39_74, e39_77, e39_78, e39_81, e39_84, e39_85, e39_86, e39_89, e39_90, e39_93, e39_96, e39_97, e39_100, e39_101, e39_102, e39_104, e39_105, e39_107, e39_109, e39_110, e39_113, e39_116, e39_119, e39_122, e39_124, e39_127, e39_128, e39_131, e39_134, e39_135, e39_138, e39_139, e39_141, e39_144, e39_146, e39_148, e39_151, e39_154, e39_157, e39_158, e39_161, e39_163, e39_165, e39_166, e39_169, e39_170, e39_171, e39_174, e39_175, e39_178, e39_181, e39_182, e39_183, e39_186, e39_188, e39_191, e39_192, e39_195, e39_197, e39_200, e39_201, e39_204, e39_206]
  by_cases kp : lv = 1 ∧ 0 < k
  · obtain ⟨c1, c2⟩ := kp
    have ea : a = 37 := by omega
    obtain ⟨M1, b0, b1, b2, b3, b4, b5, b6⟩ := c_doneB (d + 17) x0 N3 T N3 (fun x y _ => by
      have hid : cpS N3 59 37 = N3 := by
        refine cpS_id fun i y hd => ?_
        have hi : 0 ≤ i ∧ i ≤ 8 := by unfold sdom at hd; omega
        have e1 := congrFun (congrFun s59 i) y
        have e2 := congrFun (congrFun s37 i) y
        unfold zvS at e1 e2
        rw [zif_t hd, zif_t hd] at e1 e2
        rw [fN3 _ _ (by omega), fN3 _ _ (by omega), e1, e2]
      rw [hid]) hz (by rw [gN3 _ _ (by omega)]; exact f0) (by rw [gN3 _ _ (by omega)]; exact f1) (okP_eq (fun y => gN3 _ _ (by omega)) hp)
    refine ⟨M1, ?_, fun x y h => ?_, ⟨?_, ?_, ?_, ?_, ?_, ?_, ?_⟩, fun _ => ⟨b2, b3, ?_, ?_, fun i i0 i1 => ?_⟩, fun h => absurd ⟨c1, c2⟩ h⟩
    · rw [run, ← ret M1]
      rw [ea] at hq ht hkb ⊢
      simp (disch := first | assumption | exact zrm0 | exact zrm1 _ | exact zrm2 _ _ | exact zrm3 _ _ _ | exact zrm4 _ _ _ _ | omega) only [m39, ↓k_dp, ↓k_dn, k_dp, k_dn, k_dT, k_dF, k_ip, k_in, if_true, if_false, ne_eq, not_true_eq_false, not_false_eq_true, Int.reduceAdd, zup_a, zup_e, zup_j, z32_id, k_il1, k_ifeq, k_ic, k_iceq, k_ri, k_al0, k_gR, k_v2r, k_is2, k_pI, k_gI, k_il2, k_ifne, k_isub, k_v2, k_icne, k_goto, k_as3, k_is4, k_is5, k_il5, k_icge, k_il4, k_al3, k_v4r, k_inc5, k_v3r, k_v5, k_ifle, k_v1, zb0_some, zb1_some, e39_0, e39_1, e39_4, e39_5, e39_6, e39_9, e39_12, e39_13, e39_14, e39_17, e39_18, e39_21, e39_24, e39_25, e39_26, e39_29, e39_30, e39_33, e39_34, e39_37, e39_38, e39_41, e39_44, e39_47, e39_48, e39_51, e39_53, e39_54, e39_57, e39_60, e39_61, e39_62, e39_63, e39_66, e39_67, e39_70, e39_73, e39_74, e39_77, e39_78, e39_81, e39_84, e39_85, e39_86, e39_89, e39_90, e39_93, e39_96, e39_97, e39_100, e39_101, e39_102, e39_104, e39_105, e39_107, e39_109, e39_110, e39_113, e39_116, e39_119, e39_122, e39_124, e39_127, e39_128, e39_131, e39_134, e39_135, e39_138, e39_139, e39_141, e39_144, e39_146, e39_148, e39_151, e39_154, e39_157, e39_158, e39_161, e39_163, e39_165, e39_166, e39_169, e39_170, e39_171, e39_174, e39_175, e39_178, e39_181, e39_182, e39_183, e39_186, e39_188, e39_191, e39_192, e39_197, e39_200, e39_201, e39_204, e39_206, hq, ht, hkb, b0]
    · rw [b1 x y (by omega) (fun z => h (Or.inl z)), gN3 x y (by omega)]
    · rw [b1 _ _ (by omega) (by unfold zFC; omega)]; exact n21
    · rw [b1 _ _ (by omega) (by unfold zFC; omega)]; exact n510
    · rw [b1 _ _ (by omega) (by unfold zFC; omega)]; exact vN3.1
    · rw [b1 _ _ (by omega) (by unfold zFC; omega)]; exact vN3.2.1
    · rw [b1 _ _ (by omega) (by unfold zFC; omega)]; exact vN3.2.2.1
    · rw [b1 _ _ (by omega) (by unfold zFC; omega)]; exact vN3.2.2.2.1
    · rw [b1 _ _ (by omega) (by unfold zFC; omega)]; exact vN3.2.2.2.2
    · rw [b4, gN3 _ _ (by omega)]
    · rw [b5]
      exact zvS_eq (fun x y h1 h2 => gN3 x y (by omega))
    · have h13 := b4
      rw [gN3 0 13 (by omega)] at h13
      have hx : 0 ≤ (if M 0 13 = 8 then i + 1 else i) ∧ (if M 0 13 = 8 then i + 1 else i) < 8 := by
        by_cases c : M 0 13 = 8
        · rw [if_pos c] at h13 ⊢; omega
        · rw [if_neg c] at h13 ⊢; omega
      have hq2 := hp.1 _ hx.1 hx.2
      rw [b6 i i0 i1, gN3 0 13 (by omega), gN3 77 _ (by omega)]
      exact zvS_eq (fun x y h1 h2 => gN3 x y (by omega))
  · have e3 : ∀ x y, ¬ (68 ≤ x ∧ x ≤ 76) → zput N3 a T x y = N3 x y := fun x y z => by
      rcases ha37 with ⟨h, h2⟩ | ⟨h, h2⟩
      · have hk0 : k = 0 := by omega
        have hT0 : T = zvS M 37 := k6 hk0
        have e4 : zvS N3 37 = zvS M 37 := by
          rw [← s37]
          exact zvS_eq (fun x y h1 h2 => fN3 x y (by omega))
        rw [hT0, h, ← e4, zput_self]
      · rw [h]
        exact zput_o (by omega)
    refine ⟨zput N3 a T, ?_, fun x y h => ?_, ⟨?_, ?_, ?_, ?_, ?_, ?_, ?_⟩, fun h => absurd h kp, fun _ x y h h2 => ?_⟩
    · rw [run, ← ret]
      rcases ha37 with ⟨rfl, rfl⟩ | ⟨rfl, rfl⟩
      · have hk0 : ¬ 0 < k := fun z => kp ⟨rfl, z⟩
        simp (disch := first | assumption | exact zrm0 | exact zrm1 _ | exact zrm2 _ _ | exact zrm3 _ _ _ | exact zrm4 _ _ _ _ | omega) only [m39, ↓k_dp, ↓k_dn, k_dp, k_dn, k_dT, k_dF, k_ip, k_in, if_true, if_false, ne_eq, not_true_eq_false, not_false_eq_true, Int.reduceAdd, zup_a, zup_e, zup_j, z32_id, k_il1, k_ifeq, k_ic, k_iceq, k_ri, k_al0, k_gR, k_v2r, k_is2, k_pI, k_gI, k_il2, k_ifne, k_isub, k_v2, k_icne, k_goto, k_as3, k_is4, k_is5, k_il5, k_icge, k_il4, k_al3, k_v4r, k_inc5, k_v3r, k_v5, k_ifle, k_v1, zb0_some, zb1_some, e39_0, e39_1, e39_4, e39_5, e39_6, e39_9, e39_12, e39_13, e39_14, e39_17, e39_18, e39_21, e39_24, e39_25, e39_26, e39_29, e39_30, e39_33, e39_34, e39_37, e39_38, e39_41, e39_44, e39_47, e39_48, e39_51, e39_53, e39_54, e39_57, e39_60, e39_61, e39_62, e39_63, e39_66, e39_67, e39_70, e39_73, e39_74, e39_77, e39_78, e39_81, e39_84, e39_85, e39_86, e39_89, e39_90, e39_93, e39_96, e39_97, e39_100, e39_101, e39_102, e39_104, e39_105, e39_107, e39_109, e39_110, e39_113, e39_116, e39_119, e39_122, e39_124, e39_127, e39_128, e39_131, e39_134, e39_135, e39_138, e39_139, e39_141, e39_144, e39_146, e39_148, e39_151, e39_154, e39_157, e39_158, e39_161, e39_163, e39_165, e39_166, e39_169, e39_170, e39_171, e39_174, e39_175, e39_178, e39_181, e39_182, e39_183, e39_186, e39_188, e39_191, e39_192, e39_197, e39_200, e39_201, e39_204, e39_206, hq, ht, hkb]
      · simp (disch := first | assumption | exact zrm0 | exact zrm1 _ | exact zrm2 _ _ | exact zrm3 _ _ _ | exact zrm4 _ _ _ _ | omega) only [m39, ↓k_dp, ↓k_dn, k_dp, k_dn, k_dT, k_dF, k_ip, k_in, if_true, if_false, ne_eq, not_true_eq_false, not_false_eq_true, Int.reduceAdd, zup_a, zup_e, zup_j, z32_id, k_il1, k_ifeq, k_ic, k_iceq, k_ri, k_al0, k_gR, k_v2r, k_is2, k_pI, k_gI, k_il2, k_ifne, k_isub, k_v2, k_icne, k_goto, k_as3, k_is4, k_is5, k_il5, k_icge, k_il4, k_al3, k_v4r, k_inc5, k_v3r, k_v5, k_ifle, k_v1, zb0_some, zb1_some, e39_0, e39_1, e39_4, e39_5, e39_6, e39_9, e39_12, e39_13, e39_14, e39_17, e39_18, e39_21, e39_24, e39_25, e39_26, e39_29, e39_30, e39_33, e39_34, e39_37, e39_38, e39_41, e39_44, e39_47, e39_48, e39_51, e39_53, e39_54, e39_57, e39_60, e39_61, e39_62, e39_63, e39_66, e39_67, e39_70, e39_73, e39_74, e39_77, e39_78, e39_81, e39_84, e39_85, e39_86, e39_89, e39_90, e39_93, e39_96, e39_97, e39_100, e39_101, e39_102, e39_104, e39_105, e39_107, e39_109, e39_110, e39_113, e39_116, e39_119, e39_122, e39_124, e39_127, e39_128, e39_131, e39_134, e39_135, e39_138, e39_139, e39_141, e39_144, e39_146, e39_148, e39_151, e39_154, e39_157, e39_158, e39_161, e39_163, e39_165, e39_166, e39_169, e39_170, e39_171, e39_174, e39_175, e39_178, e39_181, e39_182, e39_183, e39_186, e39_188, e39_191, e39_192, e39_197, e39_200, e39_201, e39_204, e39_206, hq, ht, hkb]
    · rw [e3 x y (by omega), gN3 x y (by omega)]
    · rw [e3 _ _ (by omega)]; exact n21
    · rw [e3 _ _ (by omega)]; exact n510
    · rw [e3 _ _ (by omega)]; exact vN3.1
    · rw [e3 _ _ (by omega)]; exact vN3.2.1
    · rw [e3 _ _ (by omega)]; exact vN3.2.2.1
    · rw [e3 _ _ (by omega)]; exact vN3.2.2.2.1
    · rw [e3 _ _ (by omega)]; exact vN3.2.2.2.2
    · unfold zFC at h
      rw [e3 x y (by omega), gN3 x y (by omega)]
