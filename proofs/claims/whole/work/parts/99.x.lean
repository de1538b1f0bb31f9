/-! names: the class's key and the reference's -/
def V27 : List Int → Int
  | [] => 0
  | c :: R => 27 * V27 R + c
def V32 : List Int → Int
  | [] => 0
  | c :: R => 32 * V32 R + c
/-- letters of a name, the last first -/
def okL (R : List Int) : Prop := R.length ≤ 8 ∧ ∀ c, c ∈ R → 1 ≤ c ∧ c ≤ 26
def nmR (a b : Int) : Prop := ∃ R, R ≠ [] ∧ okL R ∧ a = V32 R ∧ b = V27 R
theorem zl_int (x : Int64) : zl x.toInt = x := Int64.ofInt_toInt x
theorem zlus_small {v : Int} (v0 : 0 ≤ v) (v1 : v < 1099511627776) (p : Nat) (hp : p < 8) : zlan (zlus v (5 * (p : Int))) 31 = v / 32 ^ p % 32 := by
  obtain ⟨n, rfl⟩ := Int.eq_ofNat_of_zero_le v0
  unfold zlan zlus
  rw [zl_int]
  have h2 : (((zl (n : Int)).toUInt64 >>> ((zb (5 * (p : Int))).toInt64.toUInt64 &&& Int64.toUInt64 63)).toInt64).toBitVec = (zl (n : Int)).toBitVec >>> (5 * p) := by
    rcases (show p = 0 ∨ p = 1 ∨ p = 2 ∨ p = 3 ∨ p = 4 ∨ p = 5 ∨ p = 6 ∨ p = 7 by omega) with rfl | rfl | rfl | rfl | rfl | rfl | rfl | rfl <;> rfl
  generalize (((zl (n : Int)).toUInt64 >>> ((zb (5 * (p : Int))).toInt64.toUInt64 &&& Int64.toUInt64 63)).toInt64) = X at h2
  have h3 : (X &&& zl 31).toInt = (X.toBitVec &&& 31#64).toInt := rfl
  have h4 : (zl (n : Int)).toBitVec.toNat = n := by
    have : (zl (n : Int)).toBitVec = BitVec.ofInt 64 (n : Int) := rfl
    rw [this, BitVec.toNat_ofInt]
    omega
  have h5 : (X.toBitVec &&& 31#64).toNat = n / 2 ^ (5 * p) % 32 := by
    rw [BitVec.toNat_and, h2, BitVec.toNat_ushiftRight, Nat.shiftRight_eq_div_pow, h4]
    exact Nat.and_two_pow_sub_one_eq_mod _ 5
  rw [h3, BitVec.toInt_eq_toNat_of_lt (by omega), h5, Nat.pow_mul]
  rfl
theorem V32_bd : ∀ {R : List Int}, okL R → 0 ≤ V32 R ∧ V32 R < 32 ^ R.length
  | [], _ => ⟨by decide, by decide⟩
  | c :: R, h => by
    have hc := h.2 c (List.mem_cons_self ..)
    have ih := V32_bd (R := R) ⟨by have := h.1; simp only [List.length_cons] at this; omega, fun x hx => h.2 x (List.mem_cons_of_mem _ hx)⟩
    have e : (32 : Int) ^ (c :: R).length = 32 * 32 ^ R.length := by rw [List.length_cons, Int.pow_succ, Int.mul_comm]
    unfold V32
    rw [e]
    omega
theorem V32_at : ∀ {R : List Int} {p : Nat}, okL R → V32 R / 32 ^ p % 32 = R.getD p 0
  | [], p, _ => by
    have : (0 : Int) / 32 ^ p = 0 := Int.zero_ediv _
    unfold V32
    rw [this]
    rfl
  | c :: R, 0, h => by
    have hc := h.2 c (List.mem_cons_self ..)
    unfold V32
    show (32 * V32 R + c) / 1 % 32 = c
    omega
  | c :: R, p + 1, h => by
    have hc := h.2 c (List.mem_cons_self ..)
    have ih := V32_at (R := R) (p := p) ⟨by have := h.1; simp only [List.length_cons] at this; omega, fun x hx => h.2 x (List.mem_cons_of_mem _ hx)⟩
    unfold V32
    rw [Int.pow_succ, Int.mul_comm (32 ^ p) 32, ← Int.ediv_ediv_of_nonneg (by omega), show (32 * V32 R + c) / 32 = V32 R by omega, ih]
    rfl
/-- the text of a name -/
def fN (R : List Int) (i : Int) : Int := 96 + R.getD (R.length - 1 - i.toNat) 0
theorem m70 (ph : Bool) (d : Nat) (a x0 p0 y0 : Int) (M : zM) : zEm ph (d + 1) 70 [(22, a, x0), (1, p0, y0)] M = zEv ph d 70 0 [(22, a, x0), (1, p0, y0), (3, 0, 0), (3, 0, 0), (3, 0, 0)] [] M := rfl
theorem e70_0 (ph : Bool) (d : Nat) (L st : List zV) (M : zM) : zEv ph d 70 0 L st M = zcont ph d 70 (zstep ph (zEm ph d) 0 2 0 [35] L st M) := zEv_step rfl
theorem e70_2 (ph : Bool) (d : Nat) (L st : List zV) (M : zM) : zEv ph d 70 2 L st M = zcont ph d 70 (zstep ph (zEm ph d) 5 3 0 [3] L st M) := zEv_step rfl
theorem e70_3 (ph : Bool) (d : Nat) (L st : List zV) (M : zM) : zEv ph d 70 3 L st M = zcont ph d 70 (zstep ph (zEm ph d) 2 4 0 [3] L st M) := zEv_step rfl
theorem e70_4 (ph : Bool) (d : Nat) (L st : List zV) (M : zM) : zEv ph d 70 4 L st M = zcont ph d 70 (zstep ph (zEm ph d) 42 7 44 [] L st M) := zEv_step rfl
theorem e70_7 (ph : Bool) (d : Nat) (L st : List zV) (M : zM) : zEv ph d 70 7 L st M = zcont ph d 70 (zstep ph (zEm ph d) 3 8 0 [1] L st M) := zEv_step rfl
theorem e70_8 (ph : Bool) (d : Nat) (L st : List zV) (M : zM) : zEv ph d 70 8 L st M = zcont ph d 70 (zstep ph (zEm ph d) 2 9 0 [3] L st M) := zEv_step rfl
theorem e70_9 (ph : Bool) (d : Nat) (L st : List zV) (M : zM) : zEv ph d 70 9 L st M = zcont ph d 70 (zstep ph (zEm ph d) 35 10 0 [] L st M) := zEv_step rfl
theorem e70_10 (ph : Bool) (d : Nat) (L st : List zV) (M : zM) : zEv ph d 70 10 L st M = zcont ph d 70 (zstep ph (zEm ph d) 1 13 0 [31] L st M) := zEv_step rfl
theorem e70_13 (ph : Bool) (d : Nat) (L st : List zV) (M : zM) : zEv ph d 70 13 L st M = zcont ph d 70 (zstep ph (zEm ph d) 32 14 0 [] L st M) := zEv_step rfl
theorem e70_14 (ph : Bool) (d : Nat) (L st : List zV) (M : zM) : zEv ph d 70 14 L st M = zcont ph d 70 (zstep ph (zEm ph d) 29 15 0 [] L st M) := zEv_step rfl
theorem e70_15 (ph : Bool) (d : Nat) (L st : List zV) (M : zM) : zEv ph d 70 15 L st M = zcont ph d 70 (zstep ph (zEm ph d) 5 17 0 [4] L st M) := zEv_step rfl
theorem e70_17 (ph : Bool) (d : Nat) (L st : List zV) (M : zM) : zEv ph d 70 17 L st M = zcont ph d 70 (zstep ph (zEm ph d) 2 19 0 [4] L st M) := zEv_step rfl
theorem e70_19 (ph : Bool) (d : Nat) (L st : List zV) (M : zM) : zEv ph d 70 19 L st M = zcont ph d 70 (zstep ph (zEm ph d) 40 22 38 [] L st M) := zEv_step rfl
theorem e70_22 (ph : Bool) (d : Nat) (L st : List zV) (M : zM) : zEv ph d 70 22 L st M = zcont ph d 70 (zstep ph (zEm ph d) 4 23 0 [0] L st M) := zEv_step rfl
theorem e70_23 (ph : Bool) (d : Nat) (L st : List zV) (M : zM) : zEv ph d 70 23 L st M = zcont ph d 70 (zstep ph (zEm ph d) 62 26 0 [22, 9, 3, 31, 0] L st M) := zEv_step rfl
theorem e70_26 (ph : Bool) (d : Nat) (L st : List zV) (M : zM) : zEv ph d 70 26 L st M = zcont ph d 70 (zstep ph (zEm ph d) 0 28 0 [97] L st M) := zEv_step rfl
theorem e70_28 (ph : Bool) (d : Nat) (L st : List zV) (M : zM) : zEv ph d 70 28 L st M = zcont ph d 70 (zstep ph (zEm ph d) 2 30 0 [4] L st M) := zEv_step rfl
theorem e70_30 (ph : Bool) (d : Nat) (L st : List zV) (M : zM) : zEv ph d 70 30 L st M = zcont ph d 70 (zstep ph (zEm ph d) 10 31 0 [] L st M) := zEv_step rfl
theorem e70_31 (ph : Bool) (d : Nat) (L st : List zV) (M : zM) : zEv ph d 70 31 L st M = zcont ph d 70 (zstep ph (zEm ph d) 0 32 0 [1] L st M) := zEv_step rfl
theorem e70_32 (ph : Bool) (d : Nat) (L st : List zV) (M : zM) : zEv ph d 70 32 L st M = zcont ph d 70 (zstep ph (zEm ph d) 11 33 0 [] L st M) := zEv_step rfl
theorem e70_33 (ph : Bool) (d : Nat) (L st : List zV) (M : zM) : zEv ph d 70 33 L st M = zcont ph d 70 (zstep ph (zEm ph d) 30 34 0 [] L st M) := zEv_step rfl
theorem e70_34 (ph : Bool) (d : Nat) (L st : List zV) (M : zM) : zEv ph d 70 34 L st M = zcont ph d 70 (zstep ph (zEm ph d) 70 37 335 [2, 1, 31] L st M) := zEv_step rfl
theorem e70_37 (ph : Bool) (d : Nat) (L st : List zV) (M : zM) : zEv ph d 70 37 L st M = zcont ph d 70 (zstep ph (zEm ph d) 38 38 0 [] L st M) := zEv_step rfl
theorem e70_38 (ph : Bool) (d : Nat) (L st : List zV) (M : zM) : zEv ph d 70 38 L st M = zcont ph d 70 (zstep ph (zEm ph d) 8 41 0 [3, -5] L st M) := zEv_step rfl
theorem e70_41 (ph : Bool) (d : Nat) (L st : List zV) (M : zM) : zEv ph d 70 41 L st M = zcont ph d 70 (zstep ph (zEm ph d) 52 44 3 [] L st M) := zEv_step rfl
theorem e70_44 (ph : Bool) (d : Nat) (L st : List zV) (M : zM) : zEv ph d 70 44 L st M = zcont ph d 70 (zstep ph (zEm ph d) 83 45 0 [] L st M) := zEv_step rfl
theorem c_setLength (d : Nat) (y y1 : Int) (M : zM) (hY : okY M) : ∃ M', zEm true (d + 5) 338 [(31, 54, y), (0, 0, y1)] M = some ((98, 0, 0), M') ∧ okY M' ∧ M' 54 3 = 0 ∧ (∀ x y, ¬ zFY x y → M' x y = M x y) ∧ zPot M M' := by
  have he := s_ensure d 0 y 0 M hY (by omega) (by omega)
  obtain ⟨a1, a2, a3, a4, a5, a6⟩ := hY
  unfold cEns at he
  rw [if_neg (by omega)] at he
  have key : ∀ P : zM, zEm true (d + 4) 305 [(31, 54, y), (0, 0, 0)] M = some ((98, 0, 0), P) → zEm true (d + 5) 338 [(31, 54, y), (0, 0, y1)] M = some ((98, 0, 0), P) := fun P h => by
    simp (disch := first | assumption | exact zrm0 | exact zrm1 _ | exact zrm2 _ _ | exact zrm3 _ _ _ | exact zrm4 _ _ _ _ | omega) only [m338, ↓k_dp, ↓k_dn, k_dp, k_dn, k_dT, k_dF, k_ip, k_in, if_true, if_false, ne_eq, not_true_eq_false, not_false_eq_true, Int.reduceAdd, zup_a, zup_e, zup_j, z32_id, k_al0, k_il1, k_v2, k_rv, zb0_some, zb1_some, e338_0, e338_1, e338_2, e338_5, h]
  by_cases c : 0 < M 54 3
  · refine ⟨zup (zup M 54 2 1) 54 3 0, key _ (by simp (disch := first | assumption | exact zrm0 | exact zrm1 _ | exact zrm2 _ _ | exact zrm3 _ _ _ | exact zrm4 _ _ _ _ | omega) only [m305, ↓k_dp, ↓k_dn, k_dp, k_dn, k_dT, k_dF, k_ip, k_in, if_true, if_false, ne_eq, not_true_eq_false, not_false_eq_true, Int.reduceAdd, zup_a, zup_e, zup_j, z32_id, k_il1, k_ifge, k_dup, k_al0, k_v2, k_gI, k_icge, k_v1r, k_ifeq, k_gD, k_s3, k_goto, k_icle, k_ic, k_pZ, k_pI, k_rv, zb0_some, zb1_some, e305_0, e305_1, e305_7, e305_8, e305_13, e305_14, e305_15, e305_18, e305_19, e305_22, e305_23, e305_26, e305_27, e305_30, e305_33, e305_34, e305_37, e305_38, e305_41, e305_42, e305_45, e305_48, e305_49, e305_52, e305_53, e305_56, e305_57, e305_60, e305_63, e305_64, e305_67, e305_68, e305_71, e305_72, e305_73, e305_76, e305_77, e305_78, e305_81, he]), ?_, zup_e (by omega), fun x y h => ?_, ?_⟩
    · unfold okY
      simp (disch := omega) only [zup_a, zup_j, zup_e]
      exact ⟨a1, a2, a3, a4, by omega, by omega⟩
    · unfold zFY at h
      unfold zup
      rw [if_neg (by omega), if_neg (by omega)]
    · unfold zPot
      simp (disch := omega) only [zup_a, zup_j]
      exact ⟨Int.le_refl _, Int.le_refl _⟩
  · refine ⟨zup M 54 3 0, key _ (by simp (disch := first | assumption | exact zrm0 | exact zrm1 _ | exact zrm2 _ _ | exact zrm3 _ _ _ | exact zrm4 _ _ _ _ | omega) only [m305, ↓k_dp, ↓k_dn, k_dp, k_dn, k_dT, k_dF, k_ip, k_in, if_true, if_false, ne_eq, not_true_eq_false, not_false_eq_true, Int.reduceAdd, zup_a, zup_e, zup_j, z32_id, k_il1, k_ifge, k_dup, k_al0, k_v2, k_gI, k_icge, k_v1r, k_ifeq, k_gD, k_s3, k_goto, k_icle, k_ic, k_pZ, k_pI, k_rv, zb0_some, zb1_some, e305_0, e305_1, e305_7, e305_8, e305_13, e305_14, e305_15, e305_18, e305_19, e305_22, e305_23, e305_26, e305_27, e305_30, e305_33, e305_34, e305_37, e305_38, e305_41, e305_42, e305_45, e305_48, e305_49, e305_52, e305_53, e305_56, e305_57, e305_60, e305_63, e305_64, e305_67, e305_68, e305_71, e305_72, e305_73, e305_76, e305_77, e305_78, e305_81, he]), ?_, zup_e (by omega), fun x y h => ?_, ?_⟩
    · unfold okY
      simp (disch := omega) only [zup_a, zup_j, zup_e]
      exact ⟨a1, a2, a3, a4, by omega, by omega⟩
    · unfold zFY at h
      unfold zup
      rw [if_neg (by omega)]
    · unfold zPot
      simp (disch := omega) only [zup_a, zup_j]
      exact ⟨Int.le_refl _, Int.le_refl _⟩
theorem cT_none {M : zM} {f : Int → Int} (hY : okY M) : cT M M 0 f := ⟨hY, by omega, fun _ _ _ => rfl, fun i i0 i1 => by omega, fun _ _ _ => rfl, zPot_refl⟩
theorem getD_mem {R : List Int} {p : Nat} (h : p < R.length) : R.getD p 0 ∈ R := by
  rw [List.getD_eq_getElem?_getD, List.getElem?_eq_getElem h]
  exact List.getElem_mem h
theorem c_cryLoop (d : Nat) (x y : Int) (R : List Int) (hR : okL R) (M : zM) (h0 : M 54 3 = 0) : ∀ (k : Nat) (l5 : zV) (N : zM) (n : Int), k ≤ 8 → n = (if (R.length : Int) ≤ k then 0 else R.length - k) → cT M N n (fN R) → ∃ N', zEv true (d + 6) 70 3 [(22, 51, x), (1, V32 R, y), (3, 0, 0), (0, 5 * (k : Int) - 5, 0), l5] [] N = some ((98, 0, 0), N') ∧ cT M N' R.length (fN R)
  | 0, l5, N, n, hk, hn, hT => by
    refine ⟨N, ?_, ?_⟩
    · generalize V32 R = v
      rw [e70_3, show 5 * ((0 : Nat) : Int) - 5 = -5 by omega]
      simp (disch := first | assumption | exact zrm0 | exact zrm1 _ | exact zrm2 _ _ | exact zrm3 _ _ _ | exact zrm4 _ _ _ _ | omega) only [m70, ↓k_dp, ↓k_dn, k_dp, k_dn, k_dT, k_dF, k_ip, k_in, if_true, if_false, ne_eq, not_true_eq_false, not_false_eq_true, Int.reduceAdd, zup_a, zup_e, zup_j, z32_id, k_ic, k_is3, k_il3, k_iflt, k_ll1, k_lushr, k_lc, k_land, k_l2i, k_is4, k_il4, k_ifeq, k_al0, k_gR, k_iadd, k_isub, k_i2c, k_v2r, k_pop, k_inc3, k_goto, k_rv, zb0_some, zb1_some, e70_0, e70_2, e70_4, e70_7, e70_8, e70_9, e70_10, e70_13, e70_14, e70_15, e70_17, e70_19, e70_22, e70_23, e70_26, e70_28, e70_30, e70_31, e70_32, e70_33, e70_34, e70_37, e70_38, e70_41, e70_44, Int.reduceNeg]
    · have e : n = R.length := by
        rw [hn]
        split <;> omega
      rw [← e]
      exact hT
  | k + 1, l5, N, n, hk, hn, hT => by
    have hv := V32_bd hR
    have hv2 : V32 R < 1099511627776 := by
      have : (32 : Int) ^ R.length ≤ 32 ^ 8 := by
        have h := Nat.pow_le_pow_right (n := 32) (by omega) hR.1
        exact_mod_cast h
      omega
    have hl := zlus_small hv.1 hv2 k (by omega)
    rw [V32_at hR] at hl
    have e5 : 5 * ((k + 1 : Nat) : Int) - 5 = 5 * (k : Int) := by omega
    rw [e5, e70_3]
    have e6 : 5 * (k : Int) + -5 = 5 * (k : Int) - 5 := by omega
    have hT2 := hT
    obtain ⟨hY, b2, -, -, -, -⟩ := hT2
    by_cases c : k < R.length
    · have hc := hR.2 _ (getD_mem c)
      have hne : ¬ ((R.length : Int) ≤ ((k + 1 : Nat) : Int)) ∨ R.length = k + 1 := by omega
      have en : n = R.length - (k + 1) := by
        rw [hn]
        split <;> omega
      have h4 := hR.1
      obtain ⟨P, p1, p2⟩ := s_app2 (d + 1) 0 (97 + R.getD k 0 - 1) 0 N hY (by omega) (by omega) (by omega)
      obtain ⟨N', q1, q2⟩ := c_cryLoop d x y R hR M h0 k (0, R.getD k 0, 0) P (n + 1) (by omega) (by rw [if_neg (by omega)]; omega) (cT_congr (cT_comp (by omega) (by omega) hT p2) (fun i i0 i1 => by
        by_cases ci : i < n
        · rw [if_pos ci]
        · rw [if_neg ci]
          unfold fN
          have : R.length - 1 - i.toNat = k := by omega
          rw [this]
          omega))
      refine ⟨N', ?_, q2⟩
      have hz := zc16_small (x := 97 + R.getD k 0 - 1) (by omega) (by omega)
      generalize R.getD k 0 = ch at *
      generalize V32 R = v at *
      simp (disch := first | assumption | exact zrm0 | exact zrm1 _ | exact zrm2 _ _ | exact zrm3 _ _ _ | exact zrm4 _ _ _ _ | omega) only [m70, ↓k_dp, ↓k_dn, k_dp, k_dn, k_dT, k_dF, k_ip, k_in, if_true, if_false, ne_eq, not_true_eq_false, not_false_eq_true, Int.reduceAdd, zup_a, zup_e, zup_j, z32_id, k_ic, k_is3, k_il3, k_iflt, k_ll1, k_lushr, k_lc, k_land, k_l2i, k_is4, k_il4, k_ifeq, k_al0, k_gR, k_iadd, k_isub, k_i2c, k_v2r, k_pop, k_inc3, k_goto, k_rv, zb0_some, zb1_some, e70_0, e70_2, e70_4, e70_7, e70_8, e70_9, e70_10, e70_13, e70_14, e70_15, e70_17, e70_19, e70_22, e70_23, e70_26, e70_28, e70_30, e70_31, e70_32, e70_33, e70_34, e70_37, e70_38, e70_41, e70_44, hl, p1, hz, e6]
      exact q1
    · have hg : R.getD k 0 = 0 := by
        rw [List.getD_eq_getElem?_getD, List.getElem?_eq_none (by omega)]
        rfl
      rw [hg] at hl
      obtain ⟨N', q1, q2⟩ := c_cryLoop d x y R hR M h0 k (0, 0, 0) N n (by omega) (by rw [hn, if_pos (by omega), if_pos (by omega)]) hT
      refine ⟨N', ?_, q2⟩
      generalize V32 R = v at *
      simp (disch := first | assumption | exact zrm0 | exact zrm1 _ | exact zrm2 _ _ | exact zrm3 _ _ _ | exact zrm4 _ _ _ _ | omega) only [m70, ↓k_dp, ↓k_dn, k_dp, k_dn, k_dT, k_dF, k_ip, k_in, if_true, if_false, ne_eq, not_true_eq_false, not_false_eq_true, Int.reduceAdd, zup_a, zup_e, zup_j, z32_id, k_ic, k_is3, k_il3, k_iflt, k_ll1, k_lushr, k_lc, k_land, k_l2i, k_is4, k_il4, k_ifeq, k_al0, k_gR, k_iadd, k_isub, k_i2c, k_v2r, k_pop, k_inc3, k_goto, k_rv, zb0_some, zb1_some, e70_0, e70_2, e70_4, e70_7, e70_8, e70_9, e70_10, e70_13, e70_14, e70_15, e70_17, e70_19, e70_22, e70_23, e70_26, e70_28, e70_30, e70_31, e70_32, e70_33, e70_34, e70_37, e70_38, e70_41, e70_44, hl, e6]
      exact q1
