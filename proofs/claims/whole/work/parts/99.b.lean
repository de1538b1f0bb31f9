/-! days: both -/
def tDays (G : zM) (n : Nat) (S : zM) : zM := zit (fun _ T => tDay2 T G) n 0 S
theorem zit_shift {α : Type} {f : α → α} : ∀ (m : Nat) (h h' : Int) (p : α), zit (fun _ p => f p) m h p = zit (fun _ p => f p) m h' p
  | 0, _, _, _ => rfl
  | m + 1, h, h', p => by rw [zit, zit]; exact zit_shift m _ _ _
theorem tDays_succ {G S : zM} {m : Nat} : tDays G (m + 1) S = tDays G m (tDay2 S G) := by
  unfold tDays
  rw [zit]
  exact zit_shift _ _ _ _
theorem tDays_ok {G : zM} (hG : okG G) : ∀ (n : Nat) (S : zM), okD S G → S 0 10 + n ≤ 400 → okD (tDays G n S) G ∧ (tDays G n S) 0 10 = S 0 10 + n ∧ (0 < n → sPut (tDays G n S) G = false)
  | 0, S, hS, hn => ⟨hS, by show S 0 10 = _; omega, fun h => absurd h (by omega)⟩
  | n + 1, S, hS, hn => by
    obtain ⟨h1, h2, h3⟩ := tDays_ok hG n S hS (by omega)
    have e : tDays G (n + 1) S = tDay2 (tDays G n S) G := zit_add n 0 S
    rw [e]
    generalize tDays G n S = T at h1 h2
    have := hS.2.1.2.2.1
    have hT : T 0 10 < 400 := by omega
    have hT0 : 0 ≤ T 0 10 := by omega
    exact ⟨okD_day hG h1 hT, by rw [tDay2_day hT0 hT]; omega, fun _ => sPut_day h1.2.1 hT hG.2.2.1.2⟩
theorem m18 (ph : Bool) (d : Nat) (a x0 p0 y0 : Int) (M : zM) : zEm ph (d + 1) 18 [(29, a, x0), (0, p0, y0)] M = zEv ph d 18 0 [(29, a, x0), (0, p0, y0), (3, 0, 0), (3, 0, 0)] [] M := rfl
theorem e18_0 (ph : Bool) (d : Nat) (L st : List zV) (M : zM) : zEv ph d 18 0 L st M = zcont ph d 18 (zstep ph (zEm ph d) 2 1 0 [1] L st M) := zEv_step rfl
theorem e18_1 (ph : Bool) (d : Nat) (L st : List zV) (M : zM) : zEv ph d 18 1 L st M = zcont ph d 18 (zstep ph (zEm ph d) 0 2 0 [1] L st M) := zEv_step rfl
theorem e18_2 (ph : Bool) (d : Nat) (L st : List zV) (M : zM) : zEv ph d 18 2 L st M = zcont ph d 18 (zstep ph (zEm ph d) 48 5 11 [] L st M) := zEv_step rfl
theorem e18_5 (ph : Bool) (d : Nat) (L st : List zV) (M : zM) : zEv ph d 18 5 L st M = zcont ph d 18 (zstep ph (zEm ph d) 2 6 0 [1] L st M) := zEv_step rfl
theorem e18_6 (ph : Bool) (d : Nat) (L st : List zV) (M : zM) : zEv ph d 18 6 L st M = zcont ph d 18 (zstep ph (zEm ph d) 0 8 0 [60] L st M) := zEv_step rfl
theorem e18_8 (ph : Bool) (d : Nat) (L st : List zV) (M : zM) : zEv ph d 18 8 L st M = zcont ph d 18 (zstep ph (zEm ph d) 51 11 13 [] L st M) := zEv_step rfl
theorem e18_11 (ph : Bool) (d : Nat) (L st : List zV) (M : zM) : zEv ph d 18 11 L st M = zcont ph d 18 (zstep ph (zEm ph d) 0 12 0 [-1] L st M) := zEv_step rfl
theorem e18_12 (ph : Bool) (d : Nat) (L st : List zV) (M : zM) : zEv ph d 18 12 L st M = zcont ph d 18 (zstep ph (zEm ph d) 80 13 0 [] L st M) := zEv_step rfl
theorem e18_13 (ph : Bool) (d : Nat) (L st : List zV) (M : zM) : zEv ph d 18 13 L st M = zcont ph d 18 (zstep ph (zEm ph d) 4 14 0 [0] L st M) := zEv_step rfl
theorem e18_14 (ph : Bool) (d : Nat) (L st : List zV) (M : zM) : zEv ph d 18 14 L st M = zcont ph d 18 (zstep ph (zEm ph d) 62 17 0 [29, 7, 59, 26, 0] L st M) := zEv_step rfl
theorem e18_17 (ph : Bool) (d : Nat) (L st : List zV) (M : zM) : zEv ph d 18 17 L st M = zcont ph d 18 (zstep ph (zEm ph d) 4 18 0 [0] L st M) := zEv_step rfl
theorem e18_18 (ph : Bool) (d : Nat) (L st : List zV) (M : zM) : zEv ph d 18 18 L st M = zcont ph d 18 (zstep ph (zEm ph d) 62 21 0 [29, 3, 37, 26, 0] L st M) := zEv_step rfl
theorem e18_21 (ph : Bool) (d : Nat) (L st : List zV) (M : zM) : zEv ph d 18 21 L st M = zcont ph d 18 (zstep ph (zEm ph d) 70 24 113 [2, 0, 26] L st M) := zEv_step rfl
theorem e18_24 (ph : Bool) (d : Nat) (L st : List zV) (M : zM) : zEv ph d 18 24 L st M = zcont ph d 18 (zstep ph (zEm ph d) 0 25 0 [0] L st M) := zEv_step rfl
theorem e18_25 (ph : Bool) (d : Nat) (L st : List zV) (M : zM) : zEv ph d 18 25 L st M = zcont ph d 18 (zstep ph (zEm ph d) 5 26 0 [2] L st M) := zEv_step rfl
theorem e18_26 (ph : Bool) (d : Nat) (L st : List zV) (M : zM) : zEv ph d 18 26 L st M = zcont ph d 18 (zstep ph (zEm ph d) 0 27 0 [0] L st M) := zEv_step rfl
theorem e18_27 (ph : Bool) (d : Nat) (L st : List zV) (M : zM) : zEv ph d 18 27 L st M = zcont ph d 18 (zstep ph (zEm ph d) 5 28 0 [3] L st M) := zEv_step rfl
theorem e18_28 (ph : Bool) (d : Nat) (L st : List zV) (M : zM) : zEv ph d 18 28 L st M = zcont ph d 18 (zstep ph (zEm ph d) 2 29 0 [3] L st M) := zEv_step rfl
theorem e18_29 (ph : Bool) (d : Nat) (L st : List zV) (M : zM) : zEv ph d 18 29 L st M = zcont ph d 18 (zstep ph (zEm ph d) 2 30 0 [1] L st M) := zEv_step rfl
theorem e18_30 (ph : Bool) (d : Nat) (L st : List zV) (M : zM) : zEv ph d 18 30 L st M = zcont ph d 18 (zstep ph (zEm ph d) 49 33 56 [] L st M) := zEv_step rfl
theorem e18_33 (ph : Bool) (d : Nat) (L st : List zV) (M : zM) : zEv ph d 18 33 L st M = zcont ph d 18 (zstep ph (zEm ph d) 4 34 0 [0] L st M) := zEv_step rfl
theorem e18_34 (ph : Bool) (d : Nat) (L st : List zV) (M : zM) : zEv ph d 18 34 L st M = zcont ph d 18 (zstep ph (zEm ph d) 62 37 0 [29, 3, 37, 26, 0] L st M) := zEv_step rfl
theorem e18_37 (ph : Bool) (d : Nat) (L st : List zV) (M : zM) : zEv ph d 18 37 L st M = zcont ph d 18 (zstep ph (zEm ph d) 4 38 0 [0] L st M) := zEv_step rfl
theorem e18_38 (ph : Bool) (d : Nat) (L st : List zV) (M : zM) : zEv ph d 18 38 L st M = zcont ph d 18 (zstep ph (zEm ph d) 62 41 0 [29, 2, 30, 28, 0] L st M) := zEv_step rfl
theorem e18_41 (ph : Bool) (d : Nat) (L st : List zV) (M : zM) : zEv ph d 18 41 L st M = zcont ph d 18 (zstep ph (zEm ph d) 70 44 133 [2, 1, 26] L st M) := zEv_step rfl
theorem e18_44 (ph : Bool) (d : Nat) (L st : List zV) (M : zM) : zEv ph d 18 44 L st M = zcont ph d 18 (zstep ph (zEm ph d) 40 47 50 [] L st M) := zEv_step rfl
theorem e18_47 (ph : Bool) (d : Nat) (L st : List zV) (M : zM) : zEv ph d 18 47 L st M = zcont ph d 18 (zstep ph (zEm ph d) 8 50 0 [2, 1] L st M) := zEv_step rfl
theorem e18_50 (ph : Bool) (d : Nat) (L st : List zV) (M : zM) : zEv ph d 18 50 L st M = zcont ph d 18 (zstep ph (zEm ph d) 8 53 0 [3, 1] L st M) := zEv_step rfl
theorem e18_53 (ph : Bool) (d : Nat) (L st : List zV) (M : zM) : zEv ph d 18 53 L st M = zcont ph d 18 (zstep ph (zEm ph d) 52 56 28 [] L st M) := zEv_step rfl
theorem e18_56 (ph : Bool) (d : Nat) (L st : List zV) (M : zM) : zEv ph d 18 56 L st M = zcont ph d 18 (zstep ph (zEm ph d) 2 57 0 [2] L st M) := zEv_step rfl
theorem e18_57 (ph : Bool) (d : Nat) (L st : List zV) (M : zM) : zEv ph d 18 57 L st M = zcont ph d 18 (zstep ph (zEm ph d) 45 60 64 [] L st M) := zEv_step rfl
theorem e18_60 (ph : Bool) (d : Nat) (L st : List zV) (M : zM) : zEv ph d 18 60 L st M = zcont ph d 18 (zstep ph (zEm ph d) 4 61 0 [0] L st M) := zEv_step rfl
theorem e18_61 (ph : Bool) (d : Nat) (L st : List zV) (M : zM) : zEv ph d 18 61 L st M = zcont ph d 18 (zstep ph (zEm ph d) 70 64 51 [1, 0, 29] L st M) := zEv_step rfl
theorem e18_64 (ph : Bool) (d : Nat) (L st : List zV) (M : zM) : zEv ph d 18 64 L st M = zcont ph d 18 (zstep ph (zEm ph d) 2 65 0 [2] L st M) := zEv_step rfl
theorem e18_65 (ph : Bool) (d : Nat) (L st : List zV) (M : zM) : zEv ph d 18 65 L st M = zcont ph d 18 (zstep ph (zEm ph d) 80 66 0 [] L st M) := zEv_step rfl
theorem m242 (ph : Bool) (d : Nat) (a x0 p0 y0 : Int) (M : zM) : zEm ph (d + 1) 242 [(30, a, x0), (0, p0, y0)] M = zEv ph d 242 0 [(30, a, x0), (0, p0, y0)] [] M := rfl
theorem e242_0 (ph : Bool) (d : Nat) (L st : List zV) (M : zM) : zEv ph d 242 0 L st M = zcont ph d 242 (zstep ph (zEm ph d) 4 1 0 [0] L st M) := zEv_step rfl
theorem e242_1 (ph : Bool) (d : Nat) (L st : List zV) (M : zM) : zEv ph d 242 1 L st M = zcont ph d 242 (zstep ph (zEm ph d) 0 2 0 [0] L st M) := zEv_step rfl
theorem e242_2 (ph : Bool) (d : Nat) (L st : List zV) (M : zM) : zEv ph d 242 2 L st M = zcont ph d 242 (zstep ph (zEm ph d) 65 5 0 [30, 0] L st M) := zEv_step rfl
theorem e242_5 (ph : Bool) (d : Nat) (L st : List zV) (M : zM) : zEv ph d 242 5 L st M = zcont ph d 242 (zstep ph (zEm ph d) 2 6 0 [1] L st M) := zEv_step rfl
theorem e242_6 (ph : Bool) (d : Nat) (L st : List zV) (M : zM) : zEv ph d 242 6 L st M = zcont ph d 242 (zstep ph (zEm ph d) 0 7 0 [1] L st M) := zEv_step rfl
theorem e242_7 (ph : Bool) (d : Nat) (L st : List zV) (M : zM) : zEv ph d 242 7 L st M = zcont ph d 242 (zstep ph (zEm ph d) 0 9 0 [60] L st M) := zEv_step rfl
theorem e242_9 (ph : Bool) (d : Nat) (L st : List zV) (M : zM) : zEv ph d 242 9 L st M = zcont ph d 242 (zstep ph (zEm ph d) 70 12 168 [3, 1, -1] L st M) := zEv_step rfl
theorem e242_12 (ph : Bool) (d : Nat) (L st : List zV) (M : zM) : zEv ph d 242 12 L st M = zcont ph d 242 (zstep ph (zEm ph d) 41 15 17 [] L st M) := zEv_step rfl
theorem e242_15 (ph : Bool) (d : Nat) (L st : List zV) (M : zM) : zEv ph d 242 15 L st M = zcont ph d 242 (zstep ph (zEm ph d) 0 16 0 [-1] L st M) := zEv_step rfl
theorem e242_16 (ph : Bool) (d : Nat) (L st : List zV) (M : zM) : zEv ph d 242 16 L st M = zcont ph d 242 (zstep ph (zEm ph d) 80 17 0 [] L st M) := zEv_step rfl
theorem e242_17 (ph : Bool) (d : Nat) (L st : List zV) (M : zM) : zEv ph d 242 17 L st M = zcont ph d 242 (zstep ph (zEm ph d) 4 18 0 [0] L st M) := zEv_step rfl
theorem e242_18 (ph : Bool) (d : Nat) (L st : List zV) (M : zM) : zEv ph d 242 18 L st M = zcont ph d 242 (zstep ph (zEm ph d) 62 21 0 [30, 14, 2, 10, 368] L st M) := zEv_step rfl
theorem e242_21 (ph : Bool) (d : Nat) (L st : List zV) (M : zM) : zEv ph d 242 21 L st M = zcont ph d 242 (zstep ph (zEm ph d) 0 23 0 [75] L st M) := zEv_step rfl
theorem e242_23 (ph : Bool) (d : Nat) (L st : List zV) (M : zM) : zEv ph d 242 23 L st M = zcont ph d 242 (zstep ph (zEm ph d) 85 24 0 [] L st M) := zEv_step rfl
theorem e242_24 (ph : Bool) (d : Nat) (L st : List zV) (M : zM) : zEv ph d 242 24 L st M = zcont ph d 242 (zstep ph (zEm ph d) 0 27 0 [400] L st M) := zEv_step rfl
theorem e242_27 (ph : Bool) (d : Nat) (L st : List zV) (M : zM) : zEv ph d 242 27 L st M = zcont ph d 242 (zstep ph (zEm ph d) 47 30 32 [] L st M) := zEv_step rfl
theorem e242_30 (ph : Bool) (d : Nat) (L st : List zV) (M : zM) : zEv ph d 242 30 L st M = zcont ph d 242 (zstep ph (zEm ph d) 0 31 0 [0] L st M) := zEv_step rfl
theorem e242_31 (ph : Bool) (d : Nat) (L st : List zV) (M : zM) : zEv ph d 242 31 L st M = zcont ph d 242 (zstep ph (zEm ph d) 80 32 0 [] L st M) := zEv_step rfl
theorem e242_32 (ph : Bool) (d : Nat) (L st : List zV) (M : zM) : zEv ph d 242 32 L st M = zcont ph d 242 (zstep ph (zEm ph d) 4 33 0 [0] L st M) := zEv_step rfl
theorem e242_33 (ph : Bool) (d : Nat) (L st : List zV) (M : zM) : zEv ph d 242 33 L st M = zcont ph d 242 (zstep ph (zEm ph d) 70 36 223 [1, 0, 30] L st M) := zEv_step rfl
theorem e242_36 (ph : Bool) (d : Nat) (L st : List zV) (M : zM) : zEv ph d 242 36 L st M = zcont ph d 242 (zstep ph (zEm ph d) 4 37 0 [0] L st M) := zEv_step rfl
theorem e242_37 (ph : Bool) (d : Nat) (L st : List zV) (M : zM) : zEv ph d 242 37 L st M = zcont ph d 242 (zstep ph (zEm ph d) 2 38 0 [1] L st M) := zEv_step rfl
theorem e242_38 (ph : Bool) (d : Nat) (L st : List zV) (M : zM) : zEv ph d 242 38 L st M = zcont ph d 242 (zstep ph (zEm ph d) 70 41 241 [2, 1, 30] L st M) := zEv_step rfl
theorem e242_41 (ph : Bool) (d : Nat) (L st : List zV) (M : zM) : zEv ph d 242 41 L st M = zcont ph d 242 (zstep ph (zEm ph d) 80 42 0 [] L st M) := zEv_step rfl
theorem c_days0 (d : Nat) (x0 n y : Int) (N : zM) (hG : okG (zvG N 30)) (n1 : n ≤ 60) : ∀ (m k : Nat) (i g : Int) (T : zM), okD T (zvG N 30) → 0 ≤ i → i + m + k = n → 0 ≤ g → g ≤ i → T 0 10 + m ≤ 400 → (k = 0 ∨ T 0 10 + m = 400) → zEv true (d + 5) 18 28 [(29, 0, x0), (0, n, y), (0, g, 0), (0, i, 0)] [] (zput N 37 T) = zEv true (d + 5) 18 56 [(29, 0, x0), (0, n, y), (0, g + m, 0), (0, n, 0)] [] (zput N 37 (tDays (zvG N 30) m T))
  | 0, 0, i, g, T, hT, i0, h1, g0, gi, h2, h3 => by
    have e : g + ((0 : Nat) : Int) = g := by omega
    have e2 : i = n := by omega
    subst e2
    rw [e, e18_28]
    show _ = zEv true (d + 5) 18 56 [(29, 0, x0), (0, i, y), (0, g, 0), (0, i, 0)] [] (zput N 37 T)
    simp (disch := first | assumption | exact zrm0 | exact zrm1 _ | exact zrm2 _ _ | exact zrm3 _ _ _ | exact zrm4 _ _ _ _ | omega) only [m18, ↓k_dp, ↓k_dn, k_dp, k_dn, k_dT, k_dF, k_ip, k_in, if_true, if_false, ne_eq, not_true_eq_false, not_false_eq_true, Int.reduceAdd, zup_a, zup_e, zup_j, z32_id, k_il1, k_ic, k_iclt, k_icle, k_ri, k_al0, k_gR, k_v2, k_is2, k_is3, k_il3, k_icge, k_v2r, k_ifeq, k_inc2, k_inc3, k_goto, k_il2, k_ifle, k_v1, zb0_some, zb1_some, e18_0, e18_1, e18_2, e18_5, e18_6, e18_8, e18_11, e18_12, e18_13, e18_14, e18_17, e18_18, e18_21, e18_24, e18_25, e18_26, e18_27, e18_29, e18_30, e18_33, e18_34, e18_37, e18_38, e18_41, e18_44, e18_47, e18_50, e18_53, e18_57, e18_60, e18_61, e18_64, e18_65]
  | 0, k + 1, i, g, T, hT, i0, h1, g0, gi, h2, h3 => by
    have hd : 400 ≤ T 0 10 := by omega
    have hz : zt T = T := hT.1
    have hs := s_passDay (d + 3) 37 0 30 0 (zput N 37 T) (by omega) (by omega) (by rw [zvG_puto (by omega)]; exact hG)
    rw [zvS_put, hz, if_pos hd, if_pos hd] at hs
    have ih := c_days0 d x0 n y N hG n1 0 k (i + 1) g T hT (by omega) (by omega) g0 (by omega) h2 (Or.inr (by omega))
    rw [← ih, e18_28]
    simp (disch := first | assumption | exact zrm0 | exact zrm1 _ | exact zrm2 _ _ | exact zrm3 _ _ _ | exact zrm4 _ _ _ _ | omega) only [m18, ↓k_dp, ↓k_dn, k_dp, k_dn, k_dT, k_dF, k_ip, k_in, if_true, if_false, ne_eq, not_true_eq_false, not_false_eq_true, Int.reduceAdd, zup_a, zup_e, zup_j, z32_id, k_il1, k_ic, k_iclt, k_icle, k_ri, k_al0, k_gR, k_v2, k_is2, k_is3, k_il3, k_icge, k_v2r, k_ifeq, k_inc2, k_inc3, k_goto, k_il2, k_ifle, k_v1, zb0_some, zb1_some, e18_0, e18_1, e18_2, e18_5, e18_6, e18_8, e18_11, e18_12, e18_13, e18_14, e18_17, e18_18, e18_21, e18_24, e18_25, e18_26, e18_27, e18_29, e18_30, e18_33, e18_34, e18_37, e18_38, e18_41, e18_44, e18_47, e18_50, e18_53, e18_56, e18_57, e18_60, e18_61, e18_64, e18_65, hs]
  | m + 1, k, i, g, T, hT, i0, h1, g0, gi, h2, h3 => by
    have hd : T 0 10 < 400 := by omega
    have hz : zt T = T := hT.1
    have hs := s_passDay (d + 3) 37 0 30 0 (zput N 37 T) (by omega) (by omega) (by rw [zvG_puto (by omega)]; exact hG)
    rw [zvS_put, hz, zvG_puto (by omega), zput_put, if_neg (by omega), if_neg (by omega)] at hs
    have hday := hT.2.1.2.2.1
    have hday2 := tDay2_day (G := zvG N 30) hday.1 hd
    have ih := c_days0 d x0 n y N hG n1 m k (i + 1) (g + 1) (tDay2 T (zvG N 30)) (okD_day hG hT hd) (by omega) (by omega) (by omega) (by omega) (by omega) (by omega)
    rw [tDays_succ, show g + ((m + 1 : Nat) : Int) = g + 1 + m by omega, ← ih, e18_28]
    simp (disch := first | assumption | exact zrm0 | exact zrm1 _ | exact zrm2 _ _ | exact zrm3 _ _ _ | exact zrm4 _ _ _ _ | omega) only [m18, ↓k_dp, ↓k_dn, k_dp, k_dn, k_dT, k_dF, k_ip, k_in, if_true, if_false, ne_eq, not_true_eq_false, not_false_eq_true, Int.reduceAdd, zup_a, zup_e, zup_j, z32_id, k_il1, k_ic, k_iclt, k_icle, k_ri, k_al0, k_gR, k_v2, k_is2, k_is3, k_il3, k_icge, k_v2r, k_ifeq, k_inc2, k_inc3, k_goto, k_il2, k_ifle, k_v1, zb0_some, zb1_some, e18_0, e18_1, e18_2, e18_5, e18_6, e18_8, e18_11, e18_12, e18_13, e18_14, e18_17, e18_18, e18_21, e18_24, e18_25, e18_26, e18_27, e18_29, e18_30, e18_33, e18_34, e18_37, e18_38, e18_41, e18_44, e18_47, e18_50, e18_53, e18_56, e18_57, e18_60, e18_61, e18_64, e18_65, hs]
theorem r_pass0 (d : Nat) (z0 n y k : Int) (M : zM) (hG : okG (zrG M)) (k1 : k ≤ 60) : ∀ (m : Nat) (i : Int) (T : zM) (sd f : Int), okD T (zrG M) → 0 ≤ i → i + m = k → T 0 10 + m ≤ 400 → zEv true (d + 5) 241 18 [(30, 197, z0), (0, n, y), (0, k, 0), (0, i, 0)] [] (rm M sd f T) = some ((0, k, 0), rm M sd (if m = 0 then f else 0) (tDays (zrG M) m T))
  | 0, i, T, sd, f, hT, h0, h1, h2 => by
    show _ = some ((0, k, 0), rm M sd f T)
    have hk : k ≤ i := by omega
    simp (disch := first | assumption | exact zrm0 | exact zrm1 _ | exact zrm2 _ _ | exact zrm3 _ _ _ | exact zrm4 _ _ _ _ | omega) only [m241, ↓k_dp, ↓k_dn, k_dp, k_dn, k_dT, k_dF, k_ip, k_in, if_true, if_false, ne_eq, not_true_eq_false, not_false_eq_true, Int.reduceAdd, zup_a, zup_e, zup_j, z32_id, k_il1, k_ic, k_al0, k_gR, k_ild, k_ildS, k_ildW, k_isub, k_s2r, k_is2, k_is3, k_il3, k_il2, k_icge, k_v1, k_inc3, k_goto, k_ri, zb0_some, zb1_some, e241_0, e241_1, e241_4, e241_5, e241_8, e241_10, e241_11, e241_12, e241_15, e241_16, e241_17, e241_18, e241_19, e241_20, e241_23, e241_24, e241_27, e241_30, e241_33, e241_34]
  | m + 1, i, T, sd, f, hT, h0, h1, h2 => by
    have hd : T 0 10 < 400 := by omega
    have hday := hT.2.1.2.2.1
    have hday2 := tDay2_day (G := zrG M) hday.1 hd
    have hs := r_oneDay (d + 3) z0 (rm M sd f T) (by rw [rm_G]; exact hG)
    rw [rm_S, rm_G, rm_fl2, hT.1] at hs
    have ih := r_pass0 d z0 n y k M hG k1 m (i + 1) (tDay2 T (zrG M)) sd 0 (okD_day hG hT hd) (by omega) (by omega) (by omega)
    have e : (if m = 0 then (0 : Int) else 0) = 0 := by split <;> rfl
    rw [e] at ih
    rw [tDays_succ, if_neg (by omega), ← ih, e241_18]
    simp (disch := first | assumption | exact zrm0 | exact zrm1 _ | exact zrm2 _ _ | exact zrm3 _ _ _ | exact zrm4 _ _ _ _ | omega) only [m241, ↓k_dp, ↓k_dn, k_dp, k_dn, k_dT, k_dF, k_ip, k_in, if_true, if_false, ne_eq, not_true_eq_false, not_false_eq_true, Int.reduceAdd, zup_a, zup_e, zup_j, z32_id, k_il1, k_ic, k_al0, k_gR, k_ild, k_ildS, k_ildW, k_isub, k_s2r, k_is2, k_is3, k_il3, k_il2, k_icge, k_v1, k_inc3, k_goto, k_ri, zb0_some, zb1_some, e241_0, e241_1, e241_4, e241_5, e241_8, e241_10, e241_11, e241_12, e241_15, e241_16, e241_17, e241_19, e241_20, e241_23, e241_24, e241_27, e241_30, e241_33, e241_34, hs]
theorem r_passDays (d : Nat) (z0 n y : Int) (M : zM) (hG : okG (zrG M)) (m : Nat) (hm : (m : Int) = sMin n (400 - M 199 75)) (k1 : n ≤ 60) (hD : okD (zrS M) (zrG M)) : zEm true (d + 6) 241 [(30, 197, z0), (0, n, y)] M = some ((0, (m : Int), 0), rm M (M 197 40) (if m = 0 then M 199 78 else 0) (tDays (zrG M) m (zrS M))) := by
  have hself : rm M (M 197 40) (M 199 78) (zrS M) = M := by
    unfold rm
    have e1 : zup M 197 40 (M 197 40) = M := zup_id rfl
    rw [e1, zup_id rfl, zpR_self]
  have e10 : zrS M 0 10 = M 199 75 := zrS_0t
  have hday := hD.2.1.2.2.1
  have hm1 : (m : Int) ≤ n ∧ M 199 75 + m ≤ 400 := by rw [hm]; unfold sMin; split <;> omega
  have h := r_pass0 d z0 n y (m : Int) M hG (by omega) m 0 (zrS M) (M 197 40) (M 199 78) hD (Int.le_refl _) (by omega) (by omega)
  rw [hself] at h
  rw [← h]
  generalize (m : Int) = v at hm ⊢
  rw [e10] at hday
  simp (disch := first | assumption | exact zrm0 | exact zrm1 _ | exact zrm2 _ _ | exact zrm3 _ _ _ | exact zrm4 _ _ _ _ | omega) only [m241, ↓k_dp, ↓k_dn, k_dp, k_dn, k_dT, k_dF, k_ip, k_in, if_true, if_false, ne_eq, not_true_eq_false, not_false_eq_true, Int.reduceAdd, zup_a, zup_e, zup_j, z32_id, k_il1, k_ic, k_al0, k_gR, k_ild, k_ildS, k_ildW, k_isub, k_s2r, k_is2, k_is3, k_il3, k_il2, k_icge, k_v1, k_inc3, k_goto, k_ri, zb0_some, zb1_some, e241_0, e241_1, e241_4, e241_5, e241_8, e241_10, e241_11, e241_12, e241_15, e241_16, e241_17, e241_19, e241_20, e241_23, e241_24, e241_27, e241_30, e241_33, e241_34, r_least, hm.symm]
theorem pair_days (d : Nat) (x0 z0 n y1 z1 : Int) (M : zM) (hC : relC M) (hE : relE M) (hF : relF M) : zPairD M (zEm true (d + 8) 18 [(29, 0, x0), (0, n, y1)] M) (fun M1 => zEm true (d + 8) 242 [(30, 197, z0), (0, n, z1)] M1) := by
  have hG := hC.2
  obtain ⟨n0, n1, n2, n3, n4, n5⟩ := relC_n hC
  obtain ⟨s8, s9, st, -⟩ := relE_n hE
  have hF2 := hF
  obtain ⟨⟨f0, f1⟩, f2, f3, f4⟩ := hF2
  have hday := hE.2.1.1.2.2.1
  rw [zvS_0 (by omega) (by omega)] at hday
  have keep : ∀ M1, (∀ x y, ¬ (59 ≤ x ∧ x ≤ 67) → M1 x y = M x y) → (relC (zup M1 197 0 0) ∧ relE (zup M1 197 0 0) ∧ relF (zup M1 197 0 0)) ∧ ∀ x y, ¬ zFD x y → zup M1 197 0 0 x y = M x y := by
    intro M1 h
    refine ⟨rel_keep hC hE hF (fun x y hx => ?_), fun x y hx => ?_⟩
    · have : zup M1 197 0 0 x y = M1 x y := by unfold zup; rw [if_neg (by omega)]
      rw [this, h x y (by omega)]
    · unfold zFD zFA zFC zFR at hx
      have : zup M1 197 0 0 x y = M1 x y := by unfold zup; rw [if_neg (by omega)]
      rw [this, h x y (by omega)]
  by_cases c1 : 1 ≤ n ∧ n ≤ 60
  · obtain ⟨c1, c2⟩ := c1
    have oD : okD (zvS M 37) (zvG M 30) := ⟨zt_v, hE.2.1⟩
    obtain ⟨m, hm⟩ : ∃ m : Nat, (m : Int) = sMin n (400 - M 37 10) := ⟨(sMin n (400 - M 37 10)).toNat, by unfold sMin; split <;> omega⟩
    have hm1 : (m : Int) ≤ n ∧ M 37 10 + m ≤ 400 ∧ ((m : Int) = n ∨ M 37 10 + m = 400) := by rw [hm]; unfold sMin; split <;> omega
    obtain ⟨k, hk⟩ : ∃ k : Nat, (k : Int) = n - m := ⟨(n - m).toNat, by omega⟩
    have e10 : zvS M 37 0 10 = M 37 10 := zvS_0 (by omega) (by omega)
    have e37 : zput (cpS M 59 37) 37 (zvS M 37) = cpS M 59 37 := by
      have : zvS M 37 = zvS (cpS M 59 37) 37 := by rw [zvS_cpo (by omega)]
      rw [this, zput_self]
    have hcd := c_days0 (d + 2) x0 n y1 (cpS M 59 37) (by rw [zvG_cpo (by omega)]; exact hG) c2 m k 0 0 (zvS M 37) (by rw [zvG_cpo (by omega)]; exact oD) (Int.le_refl _) (by omega) (Int.le_refl _) (Int.le_refl _) (by rw [e10]; omega) (by rw [e10]; omega)
    rw [e37, zvG_cpo (by omega), Int.zero_add] at hcd
    obtain ⟨ok1, ok2, ok3⟩ := tDays_ok hG m (zvS M 37) oD (by rw [e10]; omega)
    have hz : zt (tDays (zvG M 30) m (zvS M 37)) = tDays (zvG M 30) m (zvS M 37) := ok1.1
    by_cases cm : m = 0
    · have hd4 : M 37 10 = 400 := by omega
      subst cm
      have hcd : zEv true (d + 7) 18 28 [(29, 0, x0), (0, n, y1), (0, 0, 0), (0, 0, 0)] [] (cpS M 59 37) = zEv true (d + 7) 18 56 [(29, 0, x0), (0, n, y1), (0, 0, 0), (0, n, 0)] [] (cpS M 59 37) := by
        rw [hcd]
        show zEv true (d + 7) 18 56 [(29, 0, x0), (0, n, y1), (0, 0, 0), (0, n, 0)] [] (zput (cpS M 59 37) 37 (zvS M 37)) = _
        rw [e37]
      obtain ⟨⟨q1, q2, q3⟩, q4⟩ := keep (cpS M 59 37) (fun x y h1 => cpS_o (by omega))
      refine ⟨0, cpS M 59 37, zup (cpS M 59 37) 197 0 0, ?_, ?_, q1, q2, q3, q4⟩
      · simp (disch := first | assumption | exact zrm0 | exact zrm1 _ | exact zrm2 _ _ | exact zrm3 _ _ _ | exact zrm4 _ _ _ _ | omega) only [m18, ↓k_dp, ↓k_dn, k_dp, k_dn, k_dT, k_dF, k_ip, k_in, if_true, if_false, ne_eq, not_true_eq_false, not_false_eq_true, Int.reduceAdd, zup_a, zup_e, zup_j, z32_id, k_il1, k_ic, k_iclt, k_icle, k_ri, k_al0, k_gR, k_v2, k_is2, k_is3, k_il3, k_icge, k_v2r, k_ifeq, k_inc2, k_inc3, k_goto, k_il2, k_ifle, k_v1, zb0_some, zb1_some, e18_0, e18_1, e18_2, e18_5, e18_6, e18_8, e18_11, e18_12, e18_13, e18_14, e18_17, e18_18, e18_21, e18_24, e18_25, e18_26, e18_27, e18_29, e18_30, e18_33, e18_34, e18_37, e18_38, e18_41, e18_44, e18_47, e18_50, e18_53, e18_56, e18_57, e18_60, e18_61, e18_64, e18_65, s_copyS]
        rw [hcd]
        simp (disch := first | assumption | exact zrm0 | exact zrm1 _ | exact zrm2 _ _ | exact zrm3 _ _ _ | exact zrm4 _ _ _ _ | omega) only [m18, ↓k_dp, ↓k_dn, k_dp, k_dn, k_dT, k_dF, k_ip, k_in, if_true, if_false, ne_eq, not_true_eq_false, not_false_eq_true, Int.reduceAdd, zup_a, zup_e, zup_j, z32_id, k_il1, k_ic, k_iclt, k_icle, k_ri, k_al0, k_gR, k_v2, k_is2, k_is3, k_il3, k_icge, k_v2r, k_ifeq, k_inc2, k_inc3, k_goto, k_il2, k_ifle, k_v1, zb0_some, zb1_some, e18_0, e18_1, e18_2, e18_5, e18_6, e18_8, e18_11, e18_12, e18_13, e18_14, e18_17, e18_18, e18_21, e18_24, e18_25, e18_26, e18_27, e18_28, e18_29, e18_30, e18_33, e18_34, e18_37, e18_38, e18_41, e18_44, e18_47, e18_50, e18_53, e18_56, e18_57, e18_60, e18_61, e18_64, e18_65]
      · have hx2 : cpS M 59 37 199 75 = M 199 75 := cpS_o (by omega)
        have hin : (1 ≤ n ∧ n ≤ 60) := ⟨c1, c2⟩
        simp (disch := first | assumption | exact zrm0 | exact zrm1 _ | exact zrm2 _ _ | exact zrm3 _ _ _ | exact zrm4 _ _ _ _ | omega) only [m242, ↓k_dp, ↓k_dn, k_dp, k_dn, k_dT, k_dF, k_ip, k_in, if_true, if_false, ne_eq, not_true_eq_false, not_false_eq_true, Int.reduceAdd, zup_a, zup_e, zup_j, z32_id, k_al0, k_ic, k_pI, k_il1, k_s3r, k_ifne, k_ri, k_gR, k_ild, k_ildS, k_ildW, k_icne, k_v1, k_v2r, zb0_some, zb1_some, e242_0, e242_1, e242_2, e242_5, e242_6, e242_7, e242_9, e242_12, e242_15, e242_16, e242_17, e242_18, e242_21, e242_23, e242_24, e242_27, e242_30, e242_31, e242_32, e242_33, e242_36, e242_37, e242_38, e242_41, r_isIn, if_pos hin, hx2, st, hd4]
    · obtain ⟨M1, h1, b1, b2, b3, b4, b5, b6⟩ := c_doneB (d + 5) x0 M (tDays (zvG M 30) m (zvS M 37)) (cpS M 59 37) (fun x y h => rfl) hz f0 f1 f3
      have hm0 : 0 < (m : Int) := by omega
      have hcc : zEm true (d + 8) 18 [(29, 0, x0), (0, n, y1)] M = some ((0, (m : Int), 0), M1) := by
        generalize (m : Int) = v at hcd hm0 ⊢
        simp (disch := first | assumption | exact zrm0 | exact zrm1 _ | exact zrm2 _ _ | exact zrm3 _ _ _ | exact zrm4 _ _ _ _ | omega) only [m18, ↓k_dp, ↓k_dn, k_dp, k_dn, k_dT, k_dF, k_ip, k_in, if_true, if_false, ne_eq, not_true_eq_false, not_false_eq_true, Int.reduceAdd, zup_a, zup_e, zup_j, z32_id, k_il1, k_ic, k_iclt, k_icle, k_ri, k_al0, k_gR, k_v2, k_is2, k_is3, k_il3, k_icge, k_v2r, k_ifeq, k_inc2, k_inc3, k_goto, k_il2, k_ifle, k_v1, zb0_some, zb1_some, e18_0, e18_1, e18_2, e18_5, e18_6, e18_8, e18_11, e18_12, e18_13, e18_14, e18_17, e18_18, e18_21, e18_24, e18_25, e18_26, e18_27, e18_29, e18_30, e18_33, e18_34, e18_37, e18_38, e18_41, e18_44, e18_47, e18_50, e18_53, e18_56, e18_57, e18_60, e18_61, e18_64, e18_65, s_copyS]
        rw [hcd]
        simp (disch := first | assumption | exact zrm0 | exact zrm1 _ | exact zrm2 _ _ | exact zrm3 _ _ _ | exact zrm4 _ _ _ _ | omega) only [m18, ↓k_dp, ↓k_dn, k_dp, k_dn, k_dT, k_dF, k_ip, k_in, if_true, if_false, ne_eq, not_true_eq_false, not_false_eq_true, Int.reduceAdd, zup_a, zup_e, zup_j, z32_id, k_il1, k_ic, k_iclt, k_icle, k_ri, k_al0, k_gR, k_v2, k_is2, k_is3, k_il3, k_icge, k_v2r, k_ifeq, k_inc2, k_inc3, k_goto, k_il2, k_ifle, k_v1, zb0_some, zb1_some, e18_0, e18_1, e18_2, e18_5, e18_6, e18_8, e18_11, e18_12, e18_13, e18_14, e18_17, e18_18, e18_21, e18_24, e18_25, e18_26, e18_27, e18_28, e18_29, e18_30, e18_33, e18_34, e18_37, e18_38, e18_41, e18_44, e18_47, e18_50, e18_53, e18_56, e18_57, e18_60, e18_61, e18_64, e18_65, h1]
      obtain ⟨B, hB⟩ : ∃ B, B = mSnap (zup M1 197 0 0) := ⟨_, rfl⟩
      have n24 : zup M1 197 0 0 197 24 = M 0 13 := by rw [zup_j (by omega), b1 197 24 (by omega) (by unfold zFC; omega)]; exact f2
      have hBo : ∀ x y, ¬ (x = 202 ∨ (x = 197 ∧ y = 24)) → B x y = zup M1 197 0 0 x y := by rw [hB]; exact (mSnap_ok (by rw [n24]; exact f0) (by rw [n24]; exact f1)).1
      have hB1 : ∀ x y, x = 199 → B x y = M x y := fun x y hx => by
        subst hx
        rw [hBo _ _ (by omega), zup_a (by omega), b1 _ _ (by omega) (by unfold zFC; omega)]
      have eBG : zrG B = zvG M 30 := by rw [zrG_eq (M := M) (fun y _ _ => hB1 199 y rfl)]; exact hC.1
      have eBS : zrS B = zvS M 37 := by rw [zrS_eq (M := M) (fun y _ _ _ => hB1 199 y rfl)]; exact hE.1
      have hB75 : B 199 75 = M 37 10 := by rw [hB1 _ _ rfl]; exact st
      have hrc := r_passDays (d + 1) z0 n 0 B (by rw [eBG]; exact hG) m (by rw [hB75]; exact hm) c2 (by rw [eBG, eBS]; exact oD)
      rw [eBG, eBS, if_neg cm] at hrc
      have hrr : zEm true (d + 8) 242 [(30, 197, z0), (0, n, z1)] M1 = some ((0, (m : Int), 0), rm B (B 197 40) 0 (tDays (zvG M 30) m (zvS M 37))) := by
        have hx2 : M1 199 75 = M 37 10 := by rw [b1 _ _ (by omega) (by unfold zFC; omega)]; exact st
        have hin : (1 ≤ n ∧ n ≤ 60) := ⟨c1, c2⟩
        have hsn := r_snap (d + 6) z0 (zup M1 197 0 0) (by rw [n24]; exact f0) (by rw [n24]; exact f1)
        rw [← hB] at hsn
        simp (disch := first | assumption | exact zrm0 | exact zrm1 _ | exact zrm2 _ _ | exact zrm3 _ _ _ | exact zrm4 _ _ _ _ | omega) only [m242, ↓k_dp, ↓k_dn, k_dp, k_dn, k_dT, k_dF, k_ip, k_in, if_true, if_false, ne_eq, not_true_eq_false, not_false_eq_true, Int.reduceAdd, zup_a, zup_e, zup_j, z32_id, k_al0, k_ic, k_pI, k_il1, k_s3r, k_ifne, k_ri, k_gR, k_ild, k_ildS, k_ildW, k_icne, k_v1, k_v2r, zb0_some, zb1_some, e242_0, e242_1, e242_2, e242_5, e242_6, e242_7, e242_9, e242_12, e242_15, e242_16, e242_17, e242_18, e242_21, e242_23, e242_24, e242_27, e242_30, e242_31, e242_32, e242_33, e242_36, e242_37, e242_38, e242_41, r_isIn, if_pos hin, hx2, hsn, hrc]
      obtain ⟨p1, p2, p3, p4⟩ := pair_doneB (M2 := rm B (B 197 40) 0 (tDays (zvG M 30) m (zvS M 37))) (fl := 0) hC hE hF b1 b2 b3 b4 b5 b6 (fun x y h1 h2 => by rw [rm_o (by omega) (by omega), hB]) (by rw [rm_S]; exact hz) rm_78 ok1.2 (by rw [ok3 (by omega)]; rfl)
      exact ⟨(m : Int), M1, _, hcc, hrr, p1, p2, p3, p4⟩
  · obtain ⟨⟨q1, q2, q3⟩, q4⟩ := keep M (fun _ _ _ => rfl)
    refine ⟨-1, M, zup M 197 0 0, ?_, by simp (disch := first | assumption | exact zrm0 | exact zrm1 _ | exact zrm2 _ _ | exact zrm3 _ _ _ | exact zrm4 _ _ _ _ | omega) only [m242, ↓k_dp, ↓k_dn, k_dp, k_dn, k_dT, k_dF, k_ip, k_in, if_true, if_false, ne_eq, not_true_eq_false, not_false_eq_true, Int.reduceAdd, zup_a, zup_e, zup_j, z32_id, k_al0, k_ic, k_pI, k_il1, k_s3r, k_ifne, k_ri, k_gR, k_ild, k_ildS, k_ildW, k_icne, k_v1, k_v2r, zb0_some, zb1_some, e242_0, e242_1, e242_2, e242_5, e242_6, e242_7, e242_9, e242_12, e242_15, e242_16, e242_17, e242_18, e242_21, e242_23, e242_24, e242_27, e242_30, e242_31, e242_32, e242_33, e242_36, e242_37, e242_38, e242_41, r_isIn, if_neg c1], q1, q2, q3, q4⟩
    simp (disch := first | assumption | exact zrm0 | exact zrm1 _ | exact zrm2 _ _ | exact zrm3 _ _ _ | exact zrm4 _ _ _ _ | omega) only [m18, ↓k_dp, ↓k_dn, k_dp, k_dn, k_dT, k_dF, k_ip, k_in, if_true, if_false, ne_eq, not_true_eq_false, not_false_eq_true, Int.reduceAdd, zup_a, zup_e, zup_j, z32_id, k_il1, k_ic, k_iclt, k_icle, k_ri, k_al0, k_gR, k_v2, k_is2, k_is3, k_il3, k_icge, k_v2r, k_ifeq, k_inc2, k_inc3, k_goto, k_il2, k_ifle, k_v1, zb0_some, zb1_some, e18_0, e18_1, e18_2, e18_5, e18_6, e18_8, e18_11, e18_12, e18_13, e18_14, e18_17, e18_18, e18_21, e18_24, e18_25, e18_26, e18_27, e18_28, e18_29, e18_30, e18_33, e18_34, e18_37, e18_38, e18_41, e18_44, e18_47, e18_50, e18_53, e18_56, e18_57, e18_60, e18_61, e18_64, e18_65]
    all_goals (split <;> rfl)
