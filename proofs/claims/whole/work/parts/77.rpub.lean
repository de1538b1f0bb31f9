/-! the reference's acts from outside -/
def zFR (x y : Int) : Prop := (x = 197 ∧ (y = 0 ∨ y = 24)) ∨ (x = 199 ∧ 75 ≤ y ∧ y ≤ 125) ∨ x = 202
def rDone (M S' : zM) (fl : Int) (M' : zM) : Prop := (∀ x y, ¬ zFR x y → M' x y = M x y) ∧ zrS M' = S' ∧ M' 199 78 = fl ∧ M' 197 24 = (if M 197 24 = 8 then 8 else M 197 24 + 1) ∧ zsS M' (51 * (M' 197 24 - 1)) = zrS M ∧ M' 202 (51 * (M' 197 24 - 1) + 3) = M 199 78 ∧ ∀ i, 0 ≤ i → i < M' 197 24 - 1 → zsS M' (51 * i) = zsS M (51 * (if M 197 24 = 8 then i + 1 else i)) ∧ M' 202 (51 * i + 3) = M 202 (51 * (if M 197 24 = 8 then i + 1 else i) + 3)
theorem zsS_pR {M T : zM} {o : Int} : zsS (zpR M T) o = zsS M o := zsS_eq (fun y _ _ => zpR_o (by omega))
theorem zrS_snap {M : zM} (n0 : 0 ≤ M 197 24) (n1 : M 197 24 ≤ 8) : zrS (mSnap M) = zrS M := zrS_eq (fun y _ _ _ => (mSnap_ok n0 n1).1 199 y (by omega))
theorem zrG_snap {M : zM} (n0 : 0 ≤ M 197 24) (n1 : M 197 24 ≤ 8) : zrG (mSnap M) = zrG M := zrG_eq (fun y _ _ => (mSnap_ok n0 n1).1 199 y (by omega))
/-- behind a snap and a new state -/
theorem rDone_of {M S' : zM} {fl : Int} (hz : zt S' = S') (n0 : 0 ≤ M 197 24) (n1 : M 197 24 ≤ 8) : rDone M S' fl (zpR (zup (mSnap (zup M 197 0 0)) 199 78 fl) S') := by
  have e0 : zup M 197 0 0 197 24 = M 197 24 := zup_j (by omega)
  obtain ⟨k1, k2, k3, k4, k5⟩ := mSnap_ok (M := zup M 197 0 0) (by rw [e0]; exact n0) (by rw [e0]; exact n1)
  rw [e0] at k2 k5
  have e1 : ∀ T y, zpR (zup (mSnap (zup M 197 0 0)) 199 78 fl) T 202 y = mSnap (zup M 197 0 0) 202 y := fun T y => by rw [zpR_o (by omega), zup_a (by omega)]
  have e24 : zpR (zup (mSnap (zup M 197 0 0)) 199 78 fl) S' 197 24 = mSnap (zup M 197 0 0) 197 24 := by rw [zpR_o (by omega), zup_a (by omega)]
  have e2 : ∀ U o, zsS (zpR (zup U 199 78 fl) S') o = zsS U o := fun U o => zsS_eq (fun y _ _ => by rw [zpR_o (by omega), zup_a (by omega)])
  have e3 : zrS (zup M 197 0 0) = zrS M := zrS_out (Or.inl (by omega))
  have e4 : ∀ o, zsS (zup M 197 0 0) o = zsS M o := fun o => zsS_eq (fun y _ _ => zup_a (by omega))
  refine ⟨fun x y h => ?_, by rw [zrS_pR, hz], by rw [zpR_o (by omega), zup_e (by omega)], by rw [e24, k2], by rw [e24, e2, k3, e3], by rw [e24, e1, k4, zup_a (by omega)], fun i i0 i1 => ?_⟩
  · unfold zFR at h
    have hx : zpR (zup (mSnap (zup M 197 0 0)) 199 78 fl) S' x y = zup (mSnap (zup M 197 0 0)) 199 78 fl x y := zpR_o (by omega)
    have hy : zup (mSnap (zup M 197 0 0)) 199 78 fl x y = mSnap (zup M 197 0 0) x y := by unfold zup; rw [if_neg (by omega)]
    have hw : zup M 197 0 0 x y = M x y := by unfold zup; rw [if_neg (by omega)]
    rw [hx, hy, k1 x y (by omega), hw]
  · rw [e24] at i1
    obtain ⟨a1, a2⟩ := k5 i i0 i1
    rw [e2, e1, a1, a2, e4, zup_a (by omega)]
    exact ⟨rfl, rfl⟩
theorem zpR_same {M T : zM} : zpR (zup M 199 78 (M 199 78)) T = zpR M T := by
  congr 1
  funext x y
  unfold zup
  split
  · rename_i h; rw [h.1, h.2.1]
  · rfl
theorem r_isHand (d : Nat) (x0 h y : Int) (M : zM) (g1 : 0 ≤ M 199 1) (g2 : M 199 1 ≤ 10) : zEm true (d + 2) 205 [(30, 197, x0), (0, h, y)] M = some ((0, if 0 ≤ h ∧ h < M 199 1 then 1 else 0, 0), M) := by
  by_cases c : 0 ≤ h ∧ h < M 199 1
  · rw [if_pos c]
    have c2 : 0 ≤ h ∧ h ≤ M 199 1 - 1 := ⟨c.1, by omega⟩
    simp (disch := first | assumption | exact zrm0 | exact zrm1 _ | exact zrm2 _ _ | exact zrm3 _ _ _ | exact zrm4 _ _ _ _ | omega) only [m205, ↓k_dp, ↓k_dn, k_dp, k_dn, k_dT, k_dF, k_ip, k_in, if_true, if_false, ne_eq, not_true_eq_false, not_false_eq_true, Int.reduceAdd, zup_a, zup_e, zup_j, z32_id, k_il1, k_ic, k_al0, k_gR, k_ild, k_ildS, k_ildW, k_isub, k_s3r, k_rz, zb0_some, zb1_some, e205_0, e205_1, e205_2, e205_3, e205_6, e205_7, e205_8, e205_9, e205_10, e205_13, r_isIn, if_pos c2]
  · rw [if_neg c]
    have c2 : ¬ (0 ≤ h ∧ h ≤ M 199 1 - 1) := fun z => c ⟨z.1, by omega⟩
    simp (disch := first | assumption | exact zrm0 | exact zrm1 _ | exact zrm2 _ _ | exact zrm3 _ _ _ | exact zrm4 _ _ _ _ | omega) only [m205, ↓k_dp, ↓k_dn, k_dp, k_dn, k_dT, k_dF, k_ip, k_in, if_true, if_false, ne_eq, not_true_eq_false, not_false_eq_true, Int.reduceAdd, zup_a, zup_e, zup_j, z32_id, k_il1, k_ic, k_al0, k_gR, k_ild, k_ildS, k_ildW, k_isub, k_s3r, k_rz, zb0_some, zb1_some, e205_0, e205_1, e205_2, e205_3, e205_6, e205_7, e205_8, e205_9, e205_10, e205_13, r_isIn, if_neg c2]
theorem r_isQuestion (d : Nat) (x0 h y : Int) (M : zM) (g1 : 0 ≤ M 199 2) (g2 : M 199 2 ≤ 5) : zEm true (d + 2) 206 [(30, 197, x0), (0, h, y)] M = some ((0, if 0 ≤ h ∧ h < M 199 2 then 1 else 0, 0), M) := by
  by_cases c : 0 ≤ h ∧ h < M 199 2
  · rw [if_pos c]
    have c2 : 0 ≤ h ∧ h ≤ M 199 2 - 1 := ⟨c.1, by omega⟩
    simp (disch := first | assumption | exact zrm0 | exact zrm1 _ | exact zrm2 _ _ | exact zrm3 _ _ _ | exact zrm4 _ _ _ _ | omega) only [m206, ↓k_dp, ↓k_dn, k_dp, k_dn, k_dT, k_dF, k_ip, k_in, if_true, if_false, ne_eq, not_true_eq_false, not_false_eq_true, Int.reduceAdd, zup_a, zup_e, zup_j, z32_id, k_il1, k_ic, k_al0, k_gR, k_ild, k_ildS, k_ildW, k_isub, k_s3r, k_rz, zb0_some, zb1_some, e206_0, e206_1, e206_2, e206_3, e206_6, e206_7, e206_8, e206_9, e206_10, e206_13, r_isIn, if_pos c2]
  · rw [if_neg c]
    have c2 : ¬ (0 ≤ h ∧ h ≤ M 199 2 - 1) := fun z => c ⟨z.1, by omega⟩
    simp (disch := first | assumption | exact zrm0 | exact zrm1 _ | exact zrm2 _ _ | exact zrm3 _ _ _ | exact zrm4 _ _ _ _ | omega) only [m206, ↓k_dp, ↓k_dn, k_dp, k_dn, k_dT, k_dF, k_ip, k_in, if_true, if_false, ne_eq, not_true_eq_false, not_false_eq_true, Int.reduceAdd, zup_a, zup_e, zup_j, z32_id, k_il1, k_ic, k_al0, k_gR, k_ild, k_ildS, k_ildW, k_isub, k_s3r, k_rz, zb0_some, zb1_some, e206_0, e206_1, e206_2, e206_3, e206_6, e206_7, e206_8, e206_9, e206_10, e206_13, r_isIn, if_neg c2]
theorem r_isStreet (d : Nat) (x0 h y : Int) (M : zM) (g1 : 0 ≤ M 199 0) (g2 : M 199 0 ≤ 5) : zEm true (d + 2) 207 [(30, 197, x0), (0, h, y)] M = some ((0, if 0 ≤ h ∧ h < M 199 0 then 1 else 0, 0), M) := by
  by_cases c : 0 ≤ h ∧ h < M 199 0
  · rw [if_pos c]
    have c2 : 0 ≤ h ∧ h ≤ M 199 0 - 1 := ⟨c.1, by omega⟩
    simp (disch := first | assumption | exact zrm0 | exact zrm1 _ | exact zrm2 _ _ | exact zrm3 _ _ _ | exact zrm4 _ _ _ _ | omega) only [m207, ↓k_dp, ↓k_dn, k_dp, k_dn, k_dT, k_dF, k_ip, k_in, if_true, if_false, ne_eq, not_true_eq_false, not_false_eq_true, Int.reduceAdd, zup_a, zup_e, zup_j, z32_id, k_il1, k_ic, k_al0, k_gR, k_ild, k_ildS, k_ildW, k_isub, k_s3r, k_rz, zb0_some, zb1_some, e207_0, e207_1, e207_2, e207_3, e207_6, e207_7, e207_8, e207_9, e207_10, e207_13, r_isIn, if_pos c2]
  · rw [if_neg c]
    have c2 : ¬ (0 ≤ h ∧ h ≤ M 199 0 - 1) := fun z => c ⟨z.1, by omega⟩
    simp (disch := first | assumption | exact zrm0 | exact zrm1 _ | exact zrm2 _ _ | exact zrm3 _ _ _ | exact zrm4 _ _ _ _ | omega) only [m207, ↓k_dp, ↓k_dn, k_dp, k_dn, k_dT, k_dF, k_ip, k_in, if_true, if_false, ne_eq, not_true_eq_false, not_false_eq_true, Int.reduceAdd, zup_a, zup_e, zup_j, z32_id, k_il1, k_ic, k_al0, k_gR, k_ild, k_ildS, k_ildW, k_isub, k_s3r, k_rz, zb0_some, zb1_some, e207_0, e207_1, e207_2, e207_3, e207_6, e207_7, e207_8, e207_9, e207_10, e207_13, r_isIn, if_neg c2]
theorem r_isWay2 (d : Nat) (w y : Int) (M : zM) : zEm true (d + 2) 208 [(0, w, y)] M = some ((0, if 0 ≤ w ∧ w ≤ 1 then 1 else 0, 0), M) := by
  by_cases c : 0 ≤ w ∧ w ≤ 1
  · rw [if_pos c]
    simp (disch := first | assumption | exact zrm0 | exact zrm1 _ | exact zrm2 _ _ | exact zrm3 _ _ _ | exact zrm4 _ _ _ _ | omega) only [m208, ↓k_dp, ↓k_dn, k_dp, k_dn, k_dT, k_dF, k_ip, k_in, if_true, if_false, ne_eq, not_true_eq_false, not_false_eq_true, Int.reduceAdd, zup_a, zup_e, zup_j, z32_id, k_il0, k_ic, k_s3r, k_rz, zb0_some, zb1_some, e208_0, e208_1, e208_2, e208_3, e208_6, r_isIn, if_pos c]
  · rw [if_neg c]
    simp (disch := first | assumption | exact zrm0 | exact zrm1 _ | exact zrm2 _ _ | exact zrm3 _ _ _ | exact zrm4 _ _ _ _ | omega) only [m208, ↓k_dp, ↓k_dn, k_dp, k_dn, k_dT, k_dF, k_ip, k_in, if_true, if_false, ne_eq, not_true_eq_false, not_false_eq_true, Int.reduceAdd, zup_a, zup_e, zup_j, z32_id, k_il0, k_ic, k_s3r, k_rz, zb0_some, zb1_some, e208_0, e208_1, e208_2, e208_3, e208_6, r_isIn, if_neg c]
theorem m232 (ph : Bool) (d : Nat) (a x0 p0 y0 p1 y1 : Int) (M : zM) : zEm ph (d + 1) 232 [(30, a, x0), (0, p0, y0), (0, p1, y1)] M = zEv ph d 232 0 [(30, a, x0), (0, p0, y0), (0, p1, y1)] [] M := rfl
theorem e232_0 (ph : Bool) (d : Nat) (L st : List zV) (M : zM) : zEv ph d 232 0 L st M = zcont ph d 232 (zstep ph (zEm ph d) 4 1 0 [0] L st M) := zEv_step rfl
theorem e232_1 (ph : Bool) (d : Nat) (L st : List zV) (M : zM) : zEv ph d 232 1 L st M = zcont ph d 232 (zstep ph (zEm ph d) 0 2 0 [0] L st M) := zEv_step rfl
theorem e232_2 (ph : Bool) (d : Nat) (L st : List zV) (M : zM) : zEv ph d 232 2 L st M = zcont ph d 232 (zstep ph (zEm ph d) 65 5 0 [30, 0] L st M) := zEv_step rfl
theorem e232_5 (ph : Bool) (d : Nat) (L st : List zV) (M : zM) : zEv ph d 232 5 L st M = zcont ph d 232 (zstep ph (zEm ph d) 4 6 0 [0] L st M) := zEv_step rfl
theorem e232_6 (ph : Bool) (d : Nat) (L st : List zV) (M : zM) : zEv ph d 232 6 L st M = zcont ph d 232 (zstep ph (zEm ph d) 2 7 0 [1] L st M) := zEv_step rfl
theorem e232_7 (ph : Bool) (d : Nat) (L st : List zV) (M : zM) : zEv ph d 232 7 L st M = zcont ph d 232 (zstep ph (zEm ph d) 70 10 205 [2, 1, 30] L st M) := zEv_step rfl
theorem e232_10 (ph : Bool) (d : Nat) (L st : List zV) (M : zM) : zEv ph d 232 10 L st M = zcont ph d 232 (zstep ph (zEm ph d) 40 13 34 [] L st M) := zEv_step rfl
theorem e232_13 (ph : Bool) (d : Nat) (L st : List zV) (M : zM) : zEv ph d 232 13 L st M = zcont ph d 232 (zstep ph (zEm ph d) 2 14 0 [2] L st M) := zEv_step rfl
theorem e232_14 (ph : Bool) (d : Nat) (L st : List zV) (M : zM) : zEv ph d 232 14 L st M = zcont ph d 232 (zstep ph (zEm ph d) 0 15 0 [1] L st M) := zEv_step rfl
theorem e232_15 (ph : Bool) (d : Nat) (L st : List zV) (M : zM) : zEv ph d 232 15 L st M = zcont ph d 232 (zstep ph (zEm ph d) 0 17 0 [20] L st M) := zEv_step rfl
theorem e232_17 (ph : Bool) (d : Nat) (L st : List zV) (M : zM) : zEv ph d 232 17 L st M = zcont ph d 232 (zstep ph (zEm ph d) 70 20 168 [3, 1, -1] L st M) := zEv_step rfl
theorem e232_20 (ph : Bool) (d : Nat) (L st : List zV) (M : zM) : zEv ph d 232 20 L st M = zcont ph d 232 (zstep ph (zEm ph d) 40 23 34 [] L st M) := zEv_step rfl
theorem e232_23 (ph : Bool) (d : Nat) (L st : List zV) (M : zM) : zEv ph d 232 23 L st M = zcont ph d 232 (zstep ph (zEm ph d) 4 24 0 [0] L st M) := zEv_step rfl
theorem e232_24 (ph : Bool) (d : Nat) (L st : List zV) (M : zM) : zEv ph d 232 24 L st M = zcont ph d 232 (zstep ph (zEm ph d) 0 25 0 [0] L st M) := zEv_step rfl
theorem e232_25 (ph : Bool) (d : Nat) (L st : List zV) (M : zM) : zEv ph d 232 25 L st M = zcont ph d 232 (zstep ph (zEm ph d) 2 26 0 [1] L st M) := zEv_step rfl
theorem e232_26 (ph : Bool) (d : Nat) (L st : List zV) (M : zM) : zEv ph d 232 26 L st M = zcont ph d 232 (zstep ph (zEm ph d) 2 27 0 [2] L st M) := zEv_step rfl
theorem e232_27 (ph : Bool) (d : Nat) (L st : List zV) (M : zM) : zEv ph d 232 27 L st M = zcont ph d 232 (zstep ph (zEm ph d) 0 28 0 [0] L st M) := zEv_step rfl
theorem e232_28 (ph : Bool) (d : Nat) (L st : List zV) (M : zM) : zEv ph d 232 28 L st M = zcont ph d 232 (zstep ph (zEm ph d) 70 31 231 [5, 1, 30] L st M) := zEv_step rfl
theorem e232_31 (ph : Bool) (d : Nat) (L st : List zV) (M : zM) : zEv ph d 232 31 L st M = zcont ph d 232 (zstep ph (zEm ph d) 52 34 35 [] L st M) := zEv_step rfl
theorem e232_34 (ph : Bool) (d : Nat) (L st : List zV) (M : zM) : zEv ph d 232 34 L st M = zcont ph d 232 (zstep ph (zEm ph d) 0 35 0 [-1] L st M) := zEv_step rfl
theorem e232_35 (ph : Bool) (d : Nat) (L st : List zV) (M : zM) : zEv ph d 232 35 L st M = zcont ph d 232 (zstep ph (zEm ph d) 80 36 0 [] L st M) := zEv_step rfl
theorem m233 (ph : Bool) (d : Nat) (a x0 p0 y0 : Int) (M : zM) : zEm ph (d + 1) 233 [(30, a, x0), (0, p0, y0)] M = zEv ph d 233 0 [(30, a, x0), (0, p0, y0)] [] M := rfl
theorem e233_0 (ph : Bool) (d : Nat) (L st : List zV) (M : zM) : zEv ph d 233 0 L st M = zcont ph d 233 (zstep ph (zEm ph d) 4 1 0 [0] L st M) := zEv_step rfl
theorem e233_1 (ph : Bool) (d : Nat) (L st : List zV) (M : zM) : zEv ph d 233 1 L st M = zcont ph d 233 (zstep ph (zEm ph d) 0 2 0 [0] L st M) := zEv_step rfl
theorem e233_2 (ph : Bool) (d : Nat) (L st : List zV) (M : zM) : zEv ph d 233 2 L st M = zcont ph d 233 (zstep ph (zEm ph d) 65 5 0 [30, 0] L st M) := zEv_step rfl
theorem e233_5 (ph : Bool) (d : Nat) (L st : List zV) (M : zM) : zEv ph d 233 5 L st M = zcont ph d 233 (zstep ph (zEm ph d) 4 6 0 [0] L st M) := zEv_step rfl
theorem e233_6 (ph : Bool) (d : Nat) (L st : List zV) (M : zM) : zEv ph d 233 6 L st M = zcont ph d 233 (zstep ph (zEm ph d) 2 7 0 [1] L st M) := zEv_step rfl
theorem e233_7 (ph : Bool) (d : Nat) (L st : List zV) (M : zM) : zEv ph d 233 7 L st M = zcont ph d 233 (zstep ph (zEm ph d) 70 10 205 [2, 1, 30] L st M) := zEv_step rfl
theorem e233_10 (ph : Bool) (d : Nat) (L st : List zV) (M : zM) : zEv ph d 233 10 L st M = zcont ph d 233 (zstep ph (zEm ph d) 40 13 24 [] L st M) := zEv_step rfl
theorem e233_13 (ph : Bool) (d : Nat) (L st : List zV) (M : zM) : zEv ph d 233 13 L st M = zcont ph d 233 (zstep ph (zEm ph d) 4 14 0 [0] L st M) := zEv_step rfl
theorem e233_14 (ph : Bool) (d : Nat) (L st : List zV) (M : zM) : zEv ph d 233 14 L st M = zcont ph d 233 (zstep ph (zEm ph d) 0 15 0 [1] L st M) := zEv_step rfl
theorem e233_15 (ph : Bool) (d : Nat) (L st : List zV) (M : zM) : zEv ph d 233 15 L st M = zcont ph d 233 (zstep ph (zEm ph d) 2 16 0 [1] L st M) := zEv_step rfl
theorem e233_16 (ph : Bool) (d : Nat) (L st : List zV) (M : zM) : zEv ph d 233 16 L st M = zcont ph d 233 (zstep ph (zEm ph d) 0 17 0 [0] L st M) := zEv_step rfl
theorem e233_17 (ph : Bool) (d : Nat) (L st : List zV) (M : zM) : zEv ph d 233 17 L st M = zcont ph d 233 (zstep ph (zEm ph d) 0 18 0 [0] L st M) := zEv_step rfl
theorem e233_18 (ph : Bool) (d : Nat) (L st : List zV) (M : zM) : zEv ph d 233 18 L st M = zcont ph d 233 (zstep ph (zEm ph d) 70 21 231 [5, 1, 30] L st M) := zEv_step rfl
theorem e233_21 (ph : Bool) (d : Nat) (L st : List zV) (M : zM) : zEv ph d 233 21 L st M = zcont ph d 233 (zstep ph (zEm ph d) 52 24 25 [] L st M) := zEv_step rfl
theorem e233_24 (ph : Bool) (d : Nat) (L st : List zV) (M : zM) : zEv ph d 233 24 L st M = zcont ph d 233 (zstep ph (zEm ph d) 0 25 0 [-1] L st M) := zEv_step rfl
theorem e233_25 (ph : Bool) (d : Nat) (L st : List zV) (M : zM) : zEv ph d 233 25 L st M = zcont ph d 233 (zstep ph (zEm ph d) 80 26 0 [] L st M) := zEv_step rfl
theorem m234 (ph : Bool) (d : Nat) (a x0 p0 y0 : Int) (M : zM) : zEm ph (d + 1) 234 [(30, a, x0), (0, p0, y0)] M = zEv ph d 234 0 [(30, a, x0), (0, p0, y0)] [] M := rfl
theorem e234_0 (ph : Bool) (d : Nat) (L st : List zV) (M : zM) : zEv ph d 234 0 L st M = zcont ph d 234 (zstep ph (zEm ph d) 4 1 0 [0] L st M) := zEv_step rfl
theorem e234_1 (ph : Bool) (d : Nat) (L st : List zV) (M : zM) : zEv ph d 234 1 L st M = zcont ph d 234 (zstep ph (zEm ph d) 0 2 0 [0] L st M) := zEv_step rfl
theorem e234_2 (ph : Bool) (d : Nat) (L st : List zV) (M : zM) : zEv ph d 234 2 L st M = zcont ph d 234 (zstep ph (zEm ph d) 65 5 0 [30, 0] L st M) := zEv_step rfl
theorem e234_5 (ph : Bool) (d : Nat) (L st : List zV) (M : zM) : zEv ph d 234 5 L st M = zcont ph d 234 (zstep ph (zEm ph d) 4 6 0 [0] L st M) := zEv_step rfl
theorem e234_6 (ph : Bool) (d : Nat) (L st : List zV) (M : zM) : zEv ph d 234 6 L st M = zcont ph d 234 (zstep ph (zEm ph d) 2 7 0 [1] L st M) := zEv_step rfl
theorem e234_7 (ph : Bool) (d : Nat) (L st : List zV) (M : zM) : zEv ph d 234 7 L st M = zcont ph d 234 (zstep ph (zEm ph d) 70 10 205 [2, 1, 30] L st M) := zEv_step rfl
theorem e234_10 (ph : Bool) (d : Nat) (L st : List zV) (M : zM) : zEv ph d 234 10 L st M = zcont ph d 234 (zstep ph (zEm ph d) 40 13 24 [] L st M) := zEv_step rfl
theorem e234_13 (ph : Bool) (d : Nat) (L st : List zV) (M : zM) : zEv ph d 234 13 L st M = zcont ph d 234 (zstep ph (zEm ph d) 4 14 0 [0] L st M) := zEv_step rfl
theorem e234_14 (ph : Bool) (d : Nat) (L st : List zV) (M : zM) : zEv ph d 234 14 L st M = zcont ph d 234 (zstep ph (zEm ph d) 0 15 0 [2] L st M) := zEv_step rfl
theorem e234_15 (ph : Bool) (d : Nat) (L st : List zV) (M : zM) : zEv ph d 234 15 L st M = zcont ph d 234 (zstep ph (zEm ph d) 2 16 0 [1] L st M) := zEv_step rfl
theorem e234_16 (ph : Bool) (d : Nat) (L st : List zV) (M : zM) : zEv ph d 234 16 L st M = zcont ph d 234 (zstep ph (zEm ph d) 0 17 0 [0] L st M) := zEv_step rfl
theorem e234_17 (ph : Bool) (d : Nat) (L st : List zV) (M : zM) : zEv ph d 234 17 L st M = zcont ph d 234 (zstep ph (zEm ph d) 0 18 0 [0] L st M) := zEv_step rfl
theorem e234_18 (ph : Bool) (d : Nat) (L st : List zV) (M : zM) : zEv ph d 234 18 L st M = zcont ph d 234 (zstep ph (zEm ph d) 70 21 231 [5, 1, 30] L st M) := zEv_step rfl
theorem e234_21 (ph : Bool) (d : Nat) (L st : List zV) (M : zM) : zEv ph d 234 21 L st M = zcont ph d 234 (zstep ph (zEm ph d) 52 24 25 [] L st M) := zEv_step rfl
theorem e234_24 (ph : Bool) (d : Nat) (L st : List zV) (M : zM) : zEv ph d 234 24 L st M = zcont ph d 234 (zstep ph (zEm ph d) 0 25 0 [-1] L st M) := zEv_step rfl
theorem e234_25 (ph : Bool) (d : Nat) (L st : List zV) (M : zM) : zEv ph d 234 25 L st M = zcont ph d 234 (zstep ph (zEm ph d) 80 26 0 [] L st M) := zEv_step rfl
theorem m235 (ph : Bool) (d : Nat) (a x0 p0 y0 p1 y1 p2 y2 : Int) (M : zM) : zEm ph (d + 1) 235 [(30, a, x0), (0, p0, y0), (0, p1, y1), (0, p2, y2)] M = zEv ph d 235 0 [(30, a, x0), (0, p0, y0), (0, p1, y1), (0, p2, y2)] [] M := rfl
theorem e235_0 (ph : Bool) (d : Nat) (L st : List zV) (M : zM) : zEv ph d 235 0 L st M = zcont ph d 235 (zstep ph (zEm ph d) 4 1 0 [0] L st M) := zEv_step rfl
theorem e235_1 (ph : Bool) (d : Nat) (L st : List zV) (M : zM) : zEv ph d 235 1 L st M = zcont ph d 235 (zstep ph (zEm ph d) 0 2 0 [0] L st M) := zEv_step rfl
theorem e235_2 (ph : Bool) (d : Nat) (L st : List zV) (M : zM) : zEv ph d 235 2 L st M = zcont ph d 235 (zstep ph (zEm ph d) 65 5 0 [30, 0] L st M) := zEv_step rfl
theorem e235_5 (ph : Bool) (d : Nat) (L st : List zV) (M : zM) : zEv ph d 235 5 L st M = zcont ph d 235 (zstep ph (zEm ph d) 4 6 0 [0] L st M) := zEv_step rfl
theorem e235_6 (ph : Bool) (d : Nat) (L st : List zV) (M : zM) : zEv ph d 235 6 L st M = zcont ph d 235 (zstep ph (zEm ph d) 2 7 0 [1] L st M) := zEv_step rfl
theorem e235_7 (ph : Bool) (d : Nat) (L st : List zV) (M : zM) : zEv ph d 235 7 L st M = zcont ph d 235 (zstep ph (zEm ph d) 70 10 205 [2, 1, 30] L st M) := zEv_step rfl
theorem e235_10 (ph : Bool) (d : Nat) (L st : List zV) (M : zM) : zEv ph d 235 10 L st M = zcont ph d 235 (zstep ph (zEm ph d) 40 13 39 [] L st M) := zEv_step rfl
theorem e235_13 (ph : Bool) (d : Nat) (L st : List zV) (M : zM) : zEv ph d 235 13 L st M = zcont ph d 235 (zstep ph (zEm ph d) 4 14 0 [0] L st M) := zEv_step rfl
theorem e235_14 (ph : Bool) (d : Nat) (L st : List zV) (M : zM) : zEv ph d 235 14 L st M = zcont ph d 235 (zstep ph (zEm ph d) 2 15 0 [2] L st M) := zEv_step rfl
theorem e235_15 (ph : Bool) (d : Nat) (L st : List zV) (M : zM) : zEv ph d 235 15 L st M = zcont ph d 235 (zstep ph (zEm ph d) 70 18 206 [2, 1, 30] L st M) := zEv_step rfl
theorem e235_18 (ph : Bool) (d : Nat) (L st : List zV) (M : zM) : zEv ph d 235 18 L st M = zcont ph d 235 (zstep ph (zEm ph d) 40 21 39 [] L st M) := zEv_step rfl
theorem e235_21 (ph : Bool) (d : Nat) (L st : List zV) (M : zM) : zEv ph d 235 21 L st M = zcont ph d 235 (zstep ph (zEm ph d) 2 22 0 [3] L st M) := zEv_step rfl
theorem e235_22 (ph : Bool) (d : Nat) (L st : List zV) (M : zM) : zEv ph d 235 22 L st M = zcont ph d 235 (zstep ph (zEm ph d) 70 25 208 [1, 1, -1] L st M) := zEv_step rfl
theorem e235_25 (ph : Bool) (d : Nat) (L st : List zV) (M : zM) : zEv ph d 235 25 L st M = zcont ph d 235 (zstep ph (zEm ph d) 40 28 39 [] L st M) := zEv_step rfl
theorem e235_28 (ph : Bool) (d : Nat) (L st : List zV) (M : zM) : zEv ph d 235 28 L st M = zcont ph d 235 (zstep ph (zEm ph d) 4 29 0 [0] L st M) := zEv_step rfl
theorem e235_29 (ph : Bool) (d : Nat) (L st : List zV) (M : zM) : zEv ph d 235 29 L st M = zcont ph d 235 (zstep ph (zEm ph d) 0 30 0 [3] L st M) := zEv_step rfl
theorem e235_30 (ph : Bool) (d : Nat) (L st : List zV) (M : zM) : zEv ph d 235 30 L st M = zcont ph d 235 (zstep ph (zEm ph d) 2 31 0 [1] L st M) := zEv_step rfl
theorem e235_31 (ph : Bool) (d : Nat) (L st : List zV) (M : zM) : zEv ph d 235 31 L st M = zcont ph d 235 (zstep ph (zEm ph d) 2 32 0 [2] L st M) := zEv_step rfl
theorem e235_32 (ph : Bool) (d : Nat) (L st : List zV) (M : zM) : zEv ph d 235 32 L st M = zcont ph d 235 (zstep ph (zEm ph d) 2 33 0 [3] L st M) := zEv_step rfl
theorem e235_33 (ph : Bool) (d : Nat) (L st : List zV) (M : zM) : zEv ph d 235 33 L st M = zcont ph d 235 (zstep ph (zEm ph d) 70 36 231 [5, 1, 30] L st M) := zEv_step rfl
theorem e235_36 (ph : Bool) (d : Nat) (L st : List zV) (M : zM) : zEv ph d 235 36 L st M = zcont ph d 235 (zstep ph (zEm ph d) 52 39 40 [] L st M) := zEv_step rfl
theorem e235_39 (ph : Bool) (d : Nat) (L st : List zV) (M : zM) : zEv ph d 235 39 L st M = zcont ph d 235 (zstep ph (zEm ph d) 0 40 0 [-1] L st M) := zEv_step rfl
theorem e235_40 (ph : Bool) (d : Nat) (L st : List zV) (M : zM) : zEv ph d 235 40 L st M = zcont ph d 235 (zstep ph (zEm ph d) 80 41 0 [] L st M) := zEv_step rfl
theorem m236 (ph : Bool) (d : Nat) (a x0 p0 y0 : Int) (M : zM) : zEm ph (d + 1) 236 [(30, a, x0), (0, p0, y0)] M = zEv ph d 236 0 [(30, a, x0), (0, p0, y0)] [] M := rfl
theorem e236_0 (ph : Bool) (d : Nat) (L st : List zV) (M : zM) : zEv ph d 236 0 L st M = zcont ph d 236 (zstep ph (zEm ph d) 4 1 0 [0] L st M) := zEv_step rfl
theorem e236_1 (ph : Bool) (d : Nat) (L st : List zV) (M : zM) : zEv ph d 236 1 L st M = zcont ph d 236 (zstep ph (zEm ph d) 0 2 0 [0] L st M) := zEv_step rfl
theorem e236_2 (ph : Bool) (d : Nat) (L st : List zV) (M : zM) : zEv ph d 236 2 L st M = zcont ph d 236 (zstep ph (zEm ph d) 65 5 0 [30, 0] L st M) := zEv_step rfl
theorem e236_5 (ph : Bool) (d : Nat) (L st : List zV) (M : zM) : zEv ph d 236 5 L st M = zcont ph d 236 (zstep ph (zEm ph d) 4 6 0 [0] L st M) := zEv_step rfl
theorem e236_6 (ph : Bool) (d : Nat) (L st : List zV) (M : zM) : zEv ph d 236 6 L st M = zcont ph d 236 (zstep ph (zEm ph d) 2 7 0 [1] L st M) := zEv_step rfl
theorem e236_7 (ph : Bool) (d : Nat) (L st : List zV) (M : zM) : zEv ph d 236 7 L st M = zcont ph d 236 (zstep ph (zEm ph d) 70 10 206 [2, 1, 30] L st M) := zEv_step rfl
theorem e236_10 (ph : Bool) (d : Nat) (L st : List zV) (M : zM) : zEv ph d 236 10 L st M = zcont ph d 236 (zstep ph (zEm ph d) 40 13 24 [] L st M) := zEv_step rfl
theorem e236_13 (ph : Bool) (d : Nat) (L st : List zV) (M : zM) : zEv ph d 236 13 L st M = zcont ph d 236 (zstep ph (zEm ph d) 4 14 0 [0] L st M) := zEv_step rfl
theorem e236_14 (ph : Bool) (d : Nat) (L st : List zV) (M : zM) : zEv ph d 236 14 L st M = zcont ph d 236 (zstep ph (zEm ph d) 0 15 0 [4] L st M) := zEv_step rfl
theorem e236_15 (ph : Bool) (d : Nat) (L st : List zV) (M : zM) : zEv ph d 236 15 L st M = zcont ph d 236 (zstep ph (zEm ph d) 2 16 0 [1] L st M) := zEv_step rfl
theorem e236_16 (ph : Bool) (d : Nat) (L st : List zV) (M : zM) : zEv ph d 236 16 L st M = zcont ph d 236 (zstep ph (zEm ph d) 0 17 0 [0] L st M) := zEv_step rfl
theorem e236_17 (ph : Bool) (d : Nat) (L st : List zV) (M : zM) : zEv ph d 236 17 L st M = zcont ph d 236 (zstep ph (zEm ph d) 0 18 0 [0] L st M) := zEv_step rfl
theorem e236_18 (ph : Bool) (d : Nat) (L st : List zV) (M : zM) : zEv ph d 236 18 L st M = zcont ph d 236 (zstep ph (zEm ph d) 70 21 231 [5, 1, 30] L st M) := zEv_step rfl
theorem e236_21 (ph : Bool) (d : Nat) (L st : List zV) (M : zM) : zEv ph d 236 21 L st M = zcont ph d 236 (zstep ph (zEm ph d) 52 24 25 [] L st M) := zEv_step rfl
theorem e236_24 (ph : Bool) (d : Nat) (L st : List zV) (M : zM) : zEv ph d 236 24 L st M = zcont ph d 236 (zstep ph (zEm ph d) 0 25 0 [-1] L st M) := zEv_step rfl
theorem e236_25 (ph : Bool) (d : Nat) (L st : List zV) (M : zM) : zEv ph d 236 25 L st M = zcont ph d 236 (zstep ph (zEm ph d) 80 26 0 [] L st M) := zEv_step rfl
theorem m237 (ph : Bool) (d : Nat) (a x0 p0 y0 p1 y1 : Int) (M : zM) : zEm ph (d + 1) 237 [(30, a, x0), (0, p0, y0), (0, p1, y1)] M = zEv ph d 237 0 [(30, a, x0), (0, p0, y0), (0, p1, y1)] [] M := rfl
theorem e237_0 (ph : Bool) (d : Nat) (L st : List zV) (M : zM) : zEv ph d 237 0 L st M = zcont ph d 237 (zstep ph (zEm ph d) 4 1 0 [0] L st M) := zEv_step rfl
theorem e237_1 (ph : Bool) (d : Nat) (L st : List zV) (M : zM) : zEv ph d 237 1 L st M = zcont ph d 237 (zstep ph (zEm ph d) 0 2 0 [0] L st M) := zEv_step rfl
theorem e237_2 (ph : Bool) (d : Nat) (L st : List zV) (M : zM) : zEv ph d 237 2 L st M = zcont ph d 237 (zstep ph (zEm ph d) 65 5 0 [30, 0] L st M) := zEv_step rfl
theorem e237_5 (ph : Bool) (d : Nat) (L st : List zV) (M : zM) : zEv ph d 237 5 L st M = zcont ph d 237 (zstep ph (zEm ph d) 2 6 0 [1] L st M) := zEv_step rfl
theorem e237_6 (ph : Bool) (d : Nat) (L st : List zV) (M : zM) : zEv ph d 237 6 L st M = zcont ph d 237 (zstep ph (zEm ph d) 70 9 208 [1, 1, -1] L st M) := zEv_step rfl
theorem e237_9 (ph : Bool) (d : Nat) (L st : List zV) (M : zM) : zEv ph d 237 9 L st M = zcont ph d 237 (zstep ph (zEm ph d) 40 12 33 [] L st M) := zEv_step rfl
theorem e237_12 (ph : Bool) (d : Nat) (L st : List zV) (M : zM) : zEv ph d 237 12 L st M = zcont ph d 237 (zstep ph (zEm ph d) 2 13 0 [2] L st M) := zEv_step rfl
theorem e237_13 (ph : Bool) (d : Nat) (L st : List zV) (M : zM) : zEv ph d 237 13 L st M = zcont ph d 237 (zstep ph (zEm ph d) 0 14 0 [0] L st M) := zEv_step rfl
theorem e237_14 (ph : Bool) (d : Nat) (L st : List zV) (M : zM) : zEv ph d 237 14 L st M = zcont ph d 237 (zstep ph (zEm ph d) 0 16 0 [20] L st M) := zEv_step rfl
theorem e237_16 (ph : Bool) (d : Nat) (L st : List zV) (M : zM) : zEv ph d 237 16 L st M = zcont ph d 237 (zstep ph (zEm ph d) 70 19 168 [3, 1, -1] L st M) := zEv_step rfl
theorem e237_19 (ph : Bool) (d : Nat) (L st : List zV) (M : zM) : zEv ph d 237 19 L st M = zcont ph d 237 (zstep ph (zEm ph d) 40 22 33 [] L st M) := zEv_step rfl
theorem e237_22 (ph : Bool) (d : Nat) (L st : List zV) (M : zM) : zEv ph d 237 22 L st M = zcont ph d 237 (zstep ph (zEm ph d) 4 23 0 [0] L st M) := zEv_step rfl
theorem e237_23 (ph : Bool) (d : Nat) (L st : List zV) (M : zM) : zEv ph d 237 23 L st M = zcont ph d 237 (zstep ph (zEm ph d) 0 24 0 [5] L st M) := zEv_step rfl
theorem e237_24 (ph : Bool) (d : Nat) (L st : List zV) (M : zM) : zEv ph d 237 24 L st M = zcont ph d 237 (zstep ph (zEm ph d) 2 25 0 [1] L st M) := zEv_step rfl
theorem e237_25 (ph : Bool) (d : Nat) (L st : List zV) (M : zM) : zEv ph d 237 25 L st M = zcont ph d 237 (zstep ph (zEm ph d) 2 26 0 [2] L st M) := zEv_step rfl
theorem e237_26 (ph : Bool) (d : Nat) (L st : List zV) (M : zM) : zEv ph d 237 26 L st M = zcont ph d 237 (zstep ph (zEm ph d) 0 27 0 [0] L st M) := zEv_step rfl
theorem e237_27 (ph : Bool) (d : Nat) (L st : List zV) (M : zM) : zEv ph d 237 27 L st M = zcont ph d 237 (zstep ph (zEm ph d) 70 30 231 [5, 1, 30] L st M) := zEv_step rfl
theorem e237_30 (ph : Bool) (d : Nat) (L st : List zV) (M : zM) : zEv ph d 237 30 L st M = zcont ph d 237 (zstep ph (zEm ph d) 52 33 34 [] L st M) := zEv_step rfl
theorem e237_33 (ph : Bool) (d : Nat) (L st : List zV) (M : zM) : zEv ph d 237 33 L st M = zcont ph d 237 (zstep ph (zEm ph d) 0 34 0 [-1] L st M) := zEv_step rfl
theorem e237_34 (ph : Bool) (d : Nat) (L st : List zV) (M : zM) : zEv ph d 237 34 L st M = zcont ph d 237 (zstep ph (zEm ph d) 80 35 0 [] L st M) := zEv_step rfl
theorem m238 (ph : Bool) (d : Nat) (a x0 p0 y0 : Int) (M : zM) : zEm ph (d + 1) 238 [(30, a, x0), (0, p0, y0)] M = zEv ph d 238 0 [(30, a, x0), (0, p0, y0)] [] M := rfl
theorem e238_0 (ph : Bool) (d : Nat) (L st : List zV) (M : zM) : zEv ph d 238 0 L st M = zcont ph d 238 (zstep ph (zEm ph d) 4 1 0 [0] L st M) := zEv_step rfl
theorem e238_1 (ph : Bool) (d : Nat) (L st : List zV) (M : zM) : zEv ph d 238 1 L st M = zcont ph d 238 (zstep ph (zEm ph d) 0 2 0 [0] L st M) := zEv_step rfl
theorem e238_2 (ph : Bool) (d : Nat) (L st : List zV) (M : zM) : zEv ph d 238 2 L st M = zcont ph d 238 (zstep ph (zEm ph d) 65 5 0 [30, 0] L st M) := zEv_step rfl
theorem e238_5 (ph : Bool) (d : Nat) (L st : List zV) (M : zM) : zEv ph d 238 5 L st M = zcont ph d 238 (zstep ph (zEm ph d) 2 6 0 [1] L st M) := zEv_step rfl
theorem e238_6 (ph : Bool) (d : Nat) (L st : List zV) (M : zM) : zEv ph d 238 6 L st M = zcont ph d 238 (zstep ph (zEm ph d) 0 7 0 [0] L st M) := zEv_step rfl
theorem e238_7 (ph : Bool) (d : Nat) (L st : List zV) (M : zM) : zEv ph d 238 7 L st M = zcont ph d 238 (zstep ph (zEm ph d) 0 8 0 [2] L st M) := zEv_step rfl
theorem e238_8 (ph : Bool) (d : Nat) (L st : List zV) (M : zM) : zEv ph d 238 8 L st M = zcont ph d 238 (zstep ph (zEm ph d) 70 11 168 [3, 1, -1] L st M) := zEv_step rfl
theorem e238_11 (ph : Bool) (d : Nat) (L st : List zV) (M : zM) : zEv ph d 238 11 L st M = zcont ph d 238 (zstep ph (zEm ph d) 40 14 26 [] L st M) := zEv_step rfl
theorem e238_14 (ph : Bool) (d : Nat) (L st : List zV) (M : zM) : zEv ph d 238 14 L st M = zcont ph d 238 (zstep ph (zEm ph d) 4 15 0 [0] L st M) := zEv_step rfl
theorem e238_15 (ph : Bool) (d : Nat) (L st : List zV) (M : zM) : zEv ph d 238 15 L st M = zcont ph d 238 (zstep ph (zEm ph d) 0 17 0 [6] L st M) := zEv_step rfl
theorem e238_17 (ph : Bool) (d : Nat) (L st : List zV) (M : zM) : zEv ph d 238 17 L st M = zcont ph d 238 (zstep ph (zEm ph d) 2 18 0 [1] L st M) := zEv_step rfl
theorem e238_18 (ph : Bool) (d : Nat) (L st : List zV) (M : zM) : zEv ph d 238 18 L st M = zcont ph d 238 (zstep ph (zEm ph d) 0 19 0 [0] L st M) := zEv_step rfl
theorem e238_19 (ph : Bool) (d : Nat) (L st : List zV) (M : zM) : zEv ph d 238 19 L st M = zcont ph d 238 (zstep ph (zEm ph d) 0 20 0 [0] L st M) := zEv_step rfl
theorem e238_20 (ph : Bool) (d : Nat) (L st : List zV) (M : zM) : zEv ph d 238 20 L st M = zcont ph d 238 (zstep ph (zEm ph d) 70 23 231 [5, 1, 30] L st M) := zEv_step rfl
theorem e238_23 (ph : Bool) (d : Nat) (L st : List zV) (M : zM) : zEv ph d 238 23 L st M = zcont ph d 238 (zstep ph (zEm ph d) 52 26 27 [] L st M) := zEv_step rfl
theorem e238_26 (ph : Bool) (d : Nat) (L st : List zV) (M : zM) : zEv ph d 238 26 L st M = zcont ph d 238 (zstep ph (zEm ph d) 0 27 0 [-1] L st M) := zEv_step rfl
theorem e238_27 (ph : Bool) (d : Nat) (L st : List zV) (M : zM) : zEv ph d 238 27 L st M = zcont ph d 238 (zstep ph (zEm ph d) 80 28 0 [] L st M) := zEv_step rfl
theorem r_live_buy (d : Nat) (x0 y0 x y1 y y2 z y3 : Int) (M S : zM) (h0 : 0 ≤ x) (h1 : x < 10) : zEm true (d + 1) 230 [(30, 197, x0), (0, 0, y0), (0, x, y1), (0, y, y2), (0, z, y3)] (zpR M S) = some ((98, 0, 0), zpR M (tBuy S (zrG M) x y)) := by
  unfold tBuy
  rw [zrG_0t]
  simp (disch := first | assumption | exact zrm0 | exact zrm1 _ | exact zrm2 _ _ | exact zrm3 _ _ _ | exact zrm4 _ _ _ _ | omega) only [m230, ↓k_dp, ↓k_dn, k_dp, k_dn, k_dT, k_dF, k_ip, k_in, if_true, if_false, ne_eq, not_true_eq_false, not_false_eq_true, Int.reduceAdd, zup_a, zup_e, zup_j, z32_id, k_il1, k_al0, k_gR, k_ic, k_il2, k_iadd, k_dup2, k_ild, k_ildS, k_ildW, k_il3, k_imul, k_isub, k_ist, k_rv, k_ishl, k_ixor, k_il4, k_v4, k_v2, zb0_some, zb1_some, e230_0, e230_1, e230_40, e230_41, e230_44, e230_46, e230_47, e230_48, e230_49, e230_50, e230_51, e230_52, e230_55, e230_56, e230_57, e230_58, e230_59, e230_60, e230_61, e230_64, e230_66, e230_67, e230_68, e230_69, e230_70, e230_71, e230_72, e230_73, e230_74, e230_75, e230_78, e230_80, e230_81, e230_82, e230_83, e230_84, e230_85, e230_86, e230_87, e230_88, e230_89, e230_90, e230_91, e230_93, e230_96, e230_97, e230_98, e230_99, e230_102, e230_103, e230_104, e230_107, e230_109, e230_110, e230_111, e230_112, e230_113, e230_114, e230_115, e230_118, e230_120, e230_121, e230_122, zpR_o, zpR_1, zpR_2, zpR_08, zpR_u1, zpR_u2, zpR_u08, zpR_u8, zpR_u09]
theorem r_live_strike (d : Nat) (x0 y0 x y1 y y2 z y3 : Int) (M S : zM)  : zEm true (d + 1) 230 [(30, 197, x0), (0, 1, y0), (0, x, y1), (0, y, y2), (0, z, y3)] (zpR M S) = some ((98, 0, 0), zpR M (zup S 0 8 (zxor (S 0 8) (zshl 1 x)))) := by
  skip
  simp (disch := first | assumption | exact zrm0 | exact zrm1 _ | exact zrm2 _ _ | exact zrm3 _ _ _ | exact zrm4 _ _ _ _ | omega) only [m230, ↓k_dp, ↓k_dn, k_dp, k_dn, k_dT, k_dF, k_ip, k_in, if_true, if_false, ne_eq, not_true_eq_false, not_false_eq_true, Int.reduceAdd, zup_a, zup_e, zup_j, z32_id, k_il1, k_al0, k_gR, k_ic, k_il2, k_iadd, k_dup2, k_ild, k_ildS, k_ildW, k_il3, k_imul, k_isub, k_ist, k_rv, k_ishl, k_ixor, k_il4, k_v4, k_v2, zb0_some, zb1_some, e230_0, e230_1, e230_40, e230_41, e230_44, e230_46, e230_47, e230_48, e230_49, e230_50, e230_51, e230_52, e230_55, e230_56, e230_57, e230_58, e230_59, e230_60, e230_61, e230_64, e230_66, e230_67, e230_68, e230_69, e230_70, e230_71, e230_72, e230_73, e230_74, e230_75, e230_78, e230_80, e230_81, e230_82, e230_83, e230_84, e230_85, e230_86, e230_87, e230_88, e230_89, e230_90, e230_91, e230_93, e230_96, e230_97, e230_98, e230_99, e230_102, e230_103, e230_104, e230_107, e230_109, e230_110, e230_111, e230_112, e230_113, e230_114, e230_115, e230_118, e230_120, e230_121, e230_122, zpR_o, zpR_1, zpR_2, zpR_08, zpR_u1, zpR_u2, zpR_u08, zpR_u8, zpR_u09]
theorem r_live_work (d : Nat) (x0 y0 x y1 y y2 z y3 : Int) (M S : zM)  : zEm true (d + 1) 230 [(30, 197, x0), (0, 2, y0), (0, x, y1), (0, y, y2), (0, z, y3)] (zpR M S) = some ((98, 0, 0), zpR M (zup S 0 8 (zxor (S 0 8) (zshl 1 x)))) := by
  skip
  simp (disch := first | assumption | exact zrm0 | exact zrm1 _ | exact zrm2 _ _ | exact zrm3 _ _ _ | exact zrm4 _ _ _ _ | omega) only [m230, ↓k_dp, ↓k_dn, k_dp, k_dn, k_dT, k_dF, k_ip, k_in, if_true, if_false, ne_eq, not_true_eq_false, not_false_eq_true, Int.reduceAdd, zup_a, zup_e, zup_j, z32_id, k_il1, k_al0, k_gR, k_ic, k_il2, k_iadd, k_dup2, k_ild, k_ildS, k_ildW, k_il3, k_imul, k_isub, k_ist, k_rv, k_ishl, k_ixor, k_il4, k_v4, k_v2, zb0_some, zb1_some, e230_0, e230_1, e230_40, e230_41, e230_44, e230_46, e230_47, e230_48, e230_49, e230_50, e230_51, e230_52, e230_55, e230_56, e230_57, e230_58, e230_59, e230_60, e230_61, e230_64, e230_66, e230_67, e230_68, e230_69, e230_70, e230_71, e230_72, e230_73, e230_74, e230_75, e230_78, e230_80, e230_81, e230_82, e230_83, e230_84, e230_85, e230_86, e230_87, e230_88, e230_89, e230_90, e230_91, e230_93, e230_96, e230_97, e230_98, e230_99, e230_102, e230_103, e230_104, e230_107, e230_109, e230_110, e230_111, e230_112, e230_113, e230_114, e230_115, e230_118, e230_120, e230_121, e230_122, zpR_o, zpR_1, zpR_2, zpR_08, zpR_u1, zpR_u2, zpR_u08, zpR_u8, zpR_u09]
theorem r_live_lay (d : Nat) (x0 y0 x y1 y y2 z y3 : Int) (M S : zM) (h0 : 0 ≤ x) (h1 : x < 2) : zEm true (d + 1) 230 [(30, 197, x0), (0, 5, y0), (0, x, y1), (0, y, y2), (0, z, y3)] (zpR M S) = some ((98, 0, 0), zpR M (zup S 8 x y)) := by
  skip
  simp (disch := first | assumption | exact zrm0 | exact zrm1 _ | exact zrm2 _ _ | exact zrm3 _ _ _ | exact zrm4 _ _ _ _ | omega) only [m230, ↓k_dp, ↓k_dn, k_dp, k_dn, k_dT, k_dF, k_ip, k_in, if_true, if_false, ne_eq, not_true_eq_false, not_false_eq_true, Int.reduceAdd, zup_a, zup_e, zup_j, z32_id, k_il1, k_al0, k_gR, k_ic, k_il2, k_iadd, k_dup2, k_ild, k_ildS, k_ildW, k_il3, k_imul, k_isub, k_ist, k_rv, k_ishl, k_ixor, k_il4, k_v4, k_v2, zb0_some, zb1_some, e230_0, e230_1, e230_40, e230_41, e230_44, e230_46, e230_47, e230_48, e230_49, e230_50, e230_51, e230_52, e230_55, e230_56, e230_57, e230_58, e230_59, e230_60, e230_61, e230_64, e230_66, e230_67, e230_68, e230_69, e230_70, e230_71, e230_72, e230_73, e230_74, e230_75, e230_78, e230_80, e230_81, e230_82, e230_83, e230_84, e230_85, e230_86, e230_87, e230_88, e230_89, e230_90, e230_91, e230_93, e230_96, e230_97, e230_98, e230_99, e230_102, e230_103, e230_104, e230_107, e230_109, e230_110, e230_111, e230_112, e230_113, e230_114, e230_115, e230_118, e230_120, e230_121, e230_122, zpR_o, zpR_1, zpR_2, zpR_08, zpR_u1, zpR_u2, zpR_u08, zpR_u8, zpR_u09]
theorem r_live_weather (d : Nat) (x0 y0 x y1 y y2 z y3 : Int) (M S : zM)  : zEm true (d + 1) 230 [(30, 197, x0), (0, 6, y0), (0, x, y1), (0, y, y2), (0, z, y3)] (zpR M S) = some ((98, 0, 0), zpR M (zup S 0 9 x)) := by
  skip
  simp (disch := first | assumption | exact zrm0 | exact zrm1 _ | exact zrm2 _ _ | exact zrm3 _ _ _ | exact zrm4 _ _ _ _ | omega) only [m230, ↓k_dp, ↓k_dn, k_dp, k_dn, k_dT, k_dF, k_ip, k_in, if_true, if_false, ne_eq, not_true_eq_false, not_false_eq_true, Int.reduceAdd, zup_a, zup_e, zup_j, z32_id, k_il1, k_al0, k_gR, k_ic, k_il2, k_iadd, k_dup2, k_ild, k_ildS, k_ildW, k_il3, k_imul, k_isub, k_ist, k_rv, k_ishl, k_ixor, k_il4, k_v4, k_v2, zb0_some, zb1_some, e230_0, e230_1, e230_40, e230_41, e230_44, e230_46, e230_47, e230_48, e230_49, e230_50, e230_51, e230_52, e230_55, e230_56, e230_57, e230_58, e230_59, e230_60, e230_61, e230_64, e230_66, e230_67, e230_68, e230_69, e230_70, e230_71, e230_72, e230_73, e230_74, e230_75, e230_78, e230_80, e230_81, e230_82, e230_83, e230_84, e230_85, e230_86, e230_87, e230_88, e230_89, e230_90, e230_91, e230_93, e230_96, e230_97, e230_98, e230_99, e230_102, e230_103, e230_104, e230_107, e230_109, e230_110, e230_111, e230_112, e230_113, e230_114, e230_115, e230_118, e230_120, e230_121, e230_122, zpR_o, zpR_1, zpR_2, zpR_08, zpR_u1, zpR_u2, zpR_u08, zpR_u8, zpR_u09]
