/-! a deeper call says the same; rounds that may throw; the loop -/
theorem m162 (ph : Bool) (d : Nat) (a x0 : Int) (M : zM) : zEm ph (d + 1) 162 [(30, a, x0)] M = zEv ph d 162 0 [(30, a, x0)] [] M := rfl
theorem e162_0 (ph : Bool) (d : Nat) (L st : List zV) (M : zM) : zEv ph d 162 0 L st M = zcont ph d 162 (zstep ph (zEm ph d) 4 1 0 [0] L st M) := zEv_step rfl
theorem e162_1 (ph : Bool) (d : Nat) (L st : List zV) (M : zM) : zEv ph d 162 1 L st M = zcont ph d 162 (zstep ph (zEm ph d) 60 4 0 [30, 0] L st M) := zEv_step rfl
theorem e162_4 (ph : Bool) (d : Nat) (L st : List zV) (M : zM) : zEv ph d 162 4 L st M = zcont ph d 162 (zstep ph (zEm ph d) 80 5 0 [] L st M) := zEv_step rfl
theorem zF8_up {cl cl' : Nat → List zV → zM → zO} (hcl : ∀ j as M o, cl j as M = some o → cl' j as M = some o) {tg : Nat} {r : List Int} {st : List zV} {M : zM} {q : List zV × zM} (h : zF8 cl tg r st M = some q) : zF8 cl' tg r st M = some q := by
  unfold zF8 at h ⊢
  split at h
  · split at h
    · rename_i as s hargs
      split at h
      · rename_i hz
        split at h
        · rename_i w M1 hc
          rw [if_pos hz, hcl _ _ _ _ hc]
          exact h
        · cases h
      · cases h
    · cases h
  · cases h
theorem zstep_up {ph : Bool} {cl cl' : Nat → List zV → zM → zO} (hcl : ∀ j as M o, cl j as M = some o → cl' j as M = some o) {op nx tg : Nat} {r : List Int} {L st : List zV} {M : zM} {x : zC ⊕ (zV × zM)} (h : zstep ph cl op nx tg r L st M = some x) : zstep ph cl' op nx tg r L st M = some x := by
  by_cases c : op = 70
  · subst c
    have e : ∀ cl : Nat → List zV → zM → zO, zstep ph cl 70 nx tg r L st M = (zF8 cl tg r st M).map fun q => .inl (nx, L, q.1, q.2) := fun cl => rfl
    rw [e] at h ⊢
    obtain ⟨w, hw, rfl⟩ := Option.map_eq_some_iff.mp h
    rw [zF8_up hcl hw]
    rfl
  · have e : ∀ cl : Nat → List zV → zM → zO, zstep ph cl op nx tg r L st M = zstep ph (fun _ _ _ => none) op nx tg r L st M := fun cl => by
      unfold zstep
      rw [if_neg c, if_neg c]
    rw [e cl] at h
    rw [e cl']
    exact h
theorem zexec_up {ph : Bool} {cl cl' : Nat → List zV → zM → zO} (hcl : ∀ j as M o, cl j as M = some o → cl' j as M = some o) {j : Nat} : ∀ (n pc : Nat) (L st : List zV) (M : zM) (o : zV × zM), zexec ph cl j n pc L st M = some o → zexec ph cl' j n pc L st M = some o := by
  intro n
  induction n with
  | zero => intro pc L st M o h; simp [zexec] at h
  | succ n ih =>
    intro pc L st M o h
    simp only [zexec] at h ⊢
    split at h
    · cases h
    · rename_i op nx tg r hf
      split at h
      · cases h
      · rename_i c hs
        rw [zstep_up hcl hs]
        exact ih _ _ _ _ _ h
      · rename_i o' hs
        rw [zstep_up hcl hs]
        exact h
theorem zhelp_up {cl cl' : Nat → List zV → zM → zO} (hcl : ∀ j as M o, cl j as M = some o → cl' j as M = some o) {c : Nat} {as : List zV} {M : zM} {o : zV × zM} (h : zhelp cl c as M = some o) : zhelp cl' c as M = some o := by
  unfold zhelp at h ⊢
  split at h
  · split at h
    · rename_i hc
      rw [hcl _ _ _ _ hc]
      exact h
    · rename_i hc
      rw [hcl _ _ _ _ hc]
      exact h
    · cases h
  · cases h
theorem zEm_up {ph : Bool} : ∀ (d j : Nat) (as : List zV) (M : zM) (o : zV × zM), zEm ph d j as M = some o → zEm ph (d + 1) j as M = some o
  | 0, j, as, M, o, h => by cases h
  | d + 1, j, as, M, o, h => by
    have ih := zEm_up (ph := ph) d
    have e : ∀ d, zEm ph (d + 1) j as M = (if j = 373 then zhelp (zEm ph d) 5 as M else if j = 374 then zhelp (zEm ph d) 7 as M else match zinit (zml j) as with
      | some L => zlim (fun n => zexec ph (zEm ph d) j n 0 L [] M)
      | none => none) := fun _ => rfl
    rw [e] at h ⊢
    by_cases c1 : j = 373
    · rw [if_pos c1] at h ⊢
      exact zhelp_up ih h
    rw [if_neg c1] at h ⊢
    by_cases c2 : j = 374
    · rw [if_pos c2] at h ⊢
      exact zhelp_up ih h
    rw [if_neg c2] at h ⊢
    cases hL : zinit (zml j) as with
    | none => rw [hL] at h; cases h
    | some L =>
      rw [hL] at h
      obtain ⟨n, hn⟩ := zlim_ex h
      exact zlim_some (fun n k o => zexec_mono n k 0 L [] M o) (zexec_up ih n _ _ _ _ _ hn)
theorem zhelp_0 {cl : Nat → List zV → zM → zO} {c : Nat} {x p0 p1 : zV} {o n v k : Int} {M M1 : zM} (h : cl c [x, p0, p1] M = some ((0, v, k), M1)) (hn : 0 < n) : zhelp cl c [x, p0, p1, (11, o, n)] M = some ((0, 0, 0), zup M1 o 0 v) := by
  simp [zhelp, h, hn]
theorem zhelp_9 {cl : Nat → List zV → zM → zO} {c : Nat} {x p0 p1 : zV} {o n v k : Int} {M M1 : zM} (h : cl c [x, p0, p1] M = some ((99, v, k), M1)) : zhelp cl c [x, p0, p1, (11, o, n)] M = some ((0, 1, 0), M1) := by
  simp [zhelp, h]
theorem r_thrown (d : Nat) (z0 : Int) (M : zM) : zEm true (d + 1) 162 [(30, 197, z0)] M = some ((0, M 197 0, 0), M) := by
  simp (disch := first | assumption | exact zrm0 | exact zrm1 _ | exact zrm2 _ _ | exact zrm3 _ _ _ | exact zrm4 _ _ _ _ | omega) only [m162, ↓k_dp, ↓k_dn, k_dp, k_dn, k_dT, k_dF, k_ip, k_in, if_true, if_false, ne_eq, not_true_eq_false, not_false_eq_true, Int.reduceAdd, zup_a, zup_e, zup_j, z32_id, k_al0, k_gI, k_ri, e162_0, e162_1, e162_4]
def zPotN (n : Int) (M M' : zM) : Prop := M' (-1) 1 + (if M' 54 1000 = 16 then 1 else 0) ≤ M (-1) 1 + (if M 54 1000 = 16 then 1 else 0) + n ∧ M' (-1) 2 + (if M' 54 1000 = 16 then 34 else 0) ≤ M (-1) 2 + (if M 54 1000 = 16 then 34 else 0) + 6 * n
theorem zPotN_of {M M' : zM} (h : zPot M M') : zPotN 1 M M' := by
  unfold zPot at h
  unfold zPotN
  omega
theorem zPotN_t {A B C : zM} {n k : Int} (h : zPotN n A B) (g : zPotN k B C) : zPotN (n + k) A C := by
  unfold zPotN at h g ⊢
  omega
theorem Rel_fr {M M' : zM} (h : Rel M) (f : ∀ x y, x ≠ 219 → ¬ (x = 197 ∧ y = 0) → ¬ (x = -1 ∧ (y = 1 ∨ y = 2)) → M' x y = M x y) (g : 219 ≤ 219) : Rel M' := by
  obtain ⟨hA, hZ, hH, hI, hK⟩ := h
  exact ⟨fA_fr hA (fun x y h => f x y (by omega) (by omega) (by omega)), relZ_fr hZ (fun x y h => f x y (by omega) (by omega) (by omega)), fH_fr hH (fun x y h => f x y (by omega) (by omega) (by omega)), fI_fr hI (fun x y h => f x y (by omega) (by omega) (by omega)), fK_fr hK (fun x y h => f x y (by omega) (by omega) (by omega))⟩

theorem law_4 {M : zM} (hR : Rel M) {i L : Int} (l5 l6 : zV) (i0 : 0 ≤ i) (iL : i + 6 ≤ L) (L1 : L ≤ 3072) (hk : zand (M (-2) i) 63 = 4) : ∃ M2 l5' l6', zEv true 120 372 23 (lawL L i l5 l6) [] M = zEv true 120 372 23 (lawL L (i + 6) l5' l6') [] M2 ∧ Rel M2 ∧ zPotN 1 M M2 := by
  have h0 : ∀ as N, zEm true 120 373 as N = zhelp (zEm true 119) 5 as N := fun as N => rfl
  rcases st_handU (M (-2) (i + 1)) (M (-2) (i + 2)) hR with ⟨v, h1, h2⟩ | ⟨h1, h2⟩
  · have h1 : zEm true 119 5 [(29, 0, 0), (0, M (-2) (i + 1), 0), (0, M (-2) (i + 2), 0)] M = some ((0, v, 0), M) := h1
    have hh : zEm true 120 373 [(29, 0, 0), (0, M (-2) (i + 1), 0), (0, M (-2) (i + 2), 0), (11, 219, 1)] M = some ((0, 0, 0), zup M 219 0 v) := by
      rw [h0]
      exact zhelp_0 h1 (by omega)
    have h3 : zEm true 120 215 [(30, 197, 0), (0, M (-2) (i + 1), 0), (0, M (-2) (i + 2), 0)] (zup M 219 0 v) = some ((0, v, 0), zup (zup M 219 0 v) 197 0 0) := zEm_up 119 _ _ _ _ (h2 v)
    refine ⟨zup (zup M 219 0 v) 197 0 0, (0, 0, 0), (0, v, 0), ?_, Rel_fr hR (fun x y z1 z2 z3 => by rw [zup_f z2, zup_f (by omega)]) (Nat.le_refl _), zPotN_of (fP_fr (fun x y z => by rw [zup_f (by omega), zup_f (by omega)]))⟩
    unfold lawL
    rw [e372_23]
    simp (disch := first | assumption | exact zrm0 | exact zrm1 _ | exact zrm2 _ _ | exact zrm3 _ _ _ | exact zrm4 _ _ _ _ | omega) only [↓k_dp, ↓k_dn, k_dp, k_dn, k_dT, k_dF, k_ip, k_in, if_true, if_false, ne_eq, not_true_eq_false, not_false_eq_true, Int.reduceAdd, zup_a, zup_e, zup_j, z32_id, k_il4, k_al0, k_len, k_ic, k_isub, k_icgt, k_ild, k_ildS, k_ildW, k_iand, k_al1, k_iadd, k_al3, k_s4r, k_is5, k_al2, k_v3r, k_is6, k_v1r, k_il5, k_iceq, k_rz, k_ifne, k_lld, k_il6, k_i2l, k_lcmp, k_ifeq, k_goto, k_inc4, zb0_some, zb1_some, e372_25, e372_26, e372_27, e372_29, e372_30, e372_33, e372_34, e372_36, e372_37, e372_39, e372_360, e372_361, e372_362, e372_364, e372_365, e372_366, e372_367, e372_368, e372_370, e372_371, e372_372, e372_373, e372_374, e372_377, e372_379, e372_380, e372_381, e372_383, e372_384, e372_385, e372_386, e372_387, e372_389, e372_390, e372_391, e372_392, e372_395, e372_397, e372_398, e372_401, e372_403, e372_406, e372_407, e372_408, e372_410, e372_413, e372_414, e372_415, e372_416, e372_418, e372_419, e372_420, e372_423, e372_424, e372_425, e372_1507, e372_1510, hh, h3, hk, sw_4, r_thrown, zcmp_0]
  · have h1 : zEm true 119 5 [(29, 0, 0), (0, M (-2) (i + 1), 0), (0, M (-2) (i + 2), 0)] M = some ((99, 0, 0), zthr M) := h1
    have hh : zEm true 120 373 [(29, 0, 0), (0, M (-2) (i + 1), 0), (0, M (-2) (i + 2), 0), (11, 219, 1)] M = some ((0, 1, 0), zthr M) := by
      rw [h0]
      exact zhelp_9 h1
    have h3 : zEm true 120 215 [(30, 197, 0), (0, M (-2) (i + 1), 0), (0, M (-2) (i + 2), 0)] (zthr M) = some ((0, 0, 0), zup (zup (zthr M) 197 0 0) 197 0 1) := zEm_up 119 _ _ _ _ h2
    have t1 : ∀ y, zthr M (-2) y = M (-2) y := fun y => zthr_o (by omega)
    refine ⟨zup (zup (zthr M) 197 0 0) 197 0 1, (0, 1, 0), (0, 0, 0), ?_, Rel_fr hR (fun x y z1 z2 z3 => ?_) (Nat.le_refl _), ?_⟩
    · unfold lawL
      rw [e372_23]
      simp (disch := first | assumption | exact zrm0 | exact zrm1 _ | exact zrm2 _ _ | exact zrm3 _ _ _ | exact zrm4 _ _ _ _ | omega) only [↓k_dp, ↓k_dn, k_dp, k_dn, k_dT, k_dF, k_ip, k_in, if_true, if_false, ne_eq, not_true_eq_false, not_false_eq_true, Int.reduceAdd, zup_a, zup_e, zup_j, z32_id, k_il4, k_al0, k_len, k_ic, k_isub, k_icgt, k_ild, k_ildS, k_ildW, k_iand, k_al1, k_iadd, k_al3, k_s4r, k_is5, k_al2, k_v3r, k_is6, k_v1r, k_il5, k_iceq, k_rz, k_ifne, k_lld, k_il6, k_i2l, k_lcmp, k_ifeq, k_goto, k_inc4, zb0_some, zb1_some, e372_25, e372_26, e372_27, e372_29, e372_30, e372_33, e372_34, e372_36, e372_37, e372_39, e372_360, e372_361, e372_362, e372_364, e372_365, e372_366, e372_367, e372_368, e372_370, e372_371, e372_372, e372_373, e372_374, e372_377, e372_379, e372_380, e372_381, e372_383, e372_384, e372_385, e372_386, e372_387, e372_389, e372_390, e372_391, e372_392, e372_395, e372_397, e372_398, e372_401, e372_403, e372_406, e372_407, e372_408, e372_410, e372_413, e372_414, e372_415, e372_416, e372_418, e372_419, e372_420, e372_423, e372_424, e372_425, e372_1507, e372_1510, hh, h3, hk, sw_4, r_thrown, t1]
    · rw [zup_f z2, zup_f z2]
      unfold zthr
      split
      · rename_i hx
        rw [if_neg (by omega), if_neg (by omega)]
      · rfl
    · have e1 : zup (zup (zthr M) 197 0 0) 197 0 1 (-1) 1 = M (-1) 1 + 1 := by rw [zup_f (by omega), zup_f (by omega)]; rfl
      have e2 : zup (zup (zthr M) 197 0 0) 197 0 1 (-1) 2 = M (-1) 2 + 6 := by rw [zup_f (by omega), zup_f (by omega)]; rfl
      have e3 : zup (zup (zthr M) 197 0 0) 197 0 1 54 1000 = M 54 1000 := by rw [zup_f (by omega), zup_f (by omega)]; exact zthr_o (by omega)
      unfold zPotN
      rw [e1, e2, e3]
      omega
theorem law_6 {M : zM} (hR : Rel M) {i L : Int} (l5 l6 : zV) (i0 : 0 ≤ i) (iL : i + 6 ≤ L) (L1 : L ≤ 3072) (hk : zand (M (-2) i) 63 = 6) : ∃ M2 l5' l6', zEv true 120 372 23 (lawL L i l5 l6) [] M = zEv true 120 372 23 (lawL L (i + 6) l5' l6') [] M2 ∧ Rel M2 ∧ zPotN 1 M M2 := by
  have h0 : ∀ as N, zEm true 120 374 as N = zhelp (zEm true 119) 7 as N := fun as N => rfl
  rcases st_questionU (M (-2) (i + 1)) (M (-2) (i + 2)) hR with ⟨v, h1, h2⟩ | ⟨h1, h2⟩
  · have h1 : zEm true 119 7 [(29, 0, 0), (0, M (-2) (i + 1), 0), (0, M (-2) (i + 2), 0)] M = some ((0, v, 0), M) := h1
    have hh : zEm true 120 374 [(29, 0, 0), (0, M (-2) (i + 1), 0), (0, M (-2) (i + 2), 0), (11, 219, 1)] M = some ((0, 0, 0), zup M 219 0 v) := by
      rw [h0]
      exact zhelp_0 h1 (by omega)
    have h3 : zEm true 120 218 [(30, 197, 0), (0, M (-2) (i + 1), 0), (0, M (-2) (i + 2), 0)] (zup M 219 0 v) = some ((0, v, 0), zup (zup M 219 0 v) 197 0 0) := zEm_up 119 _ _ _ _ (h2 v)
    refine ⟨zup (zup M 219 0 v) 197 0 0, (0, 0, 0), (0, v, 0), ?_, Rel_fr hR (fun x y z1 z2 z3 => by rw [zup_f z2, zup_f (by omega)]) (Nat.le_refl _), zPotN_of (fP_fr (fun x y z => by rw [zup_f (by omega), zup_f (by omega)]))⟩
    unfold lawL
    rw [e372_23]
    simp (disch := first | assumption | exact zrm0 | exact zrm1 _ | exact zrm2 _ _ | exact zrm3 _ _ _ | exact zrm4 _ _ _ _ | omega) only [↓k_dp, ↓k_dn, k_dp, k_dn, k_dT, k_dF, k_ip, k_in, if_true, if_false, ne_eq, not_true_eq_false, not_false_eq_true, Int.reduceAdd, zup_a, zup_e, zup_j, z32_id, k_il4, k_al0, k_len, k_ic, k_isub, k_icgt, k_ild, k_ildS, k_ildW, k_iand, k_al1, k_iadd, k_al3, k_s4r, k_is5, k_al2, k_v3r, k_is6, k_v1r, k_il5, k_iceq, k_rz, k_ifne, k_lld, k_il6, k_i2l, k_lcmp, k_ifeq, k_goto, k_inc4, zb0_some, zb1_some, e372_25, e372_26, e372_27, e372_29, e372_30, e372_33, e372_34, e372_36, e372_37, e372_39, e372_465, e372_466, e372_467, e372_469, e372_470, e372_471, e372_472, e372_473, e372_475, e372_476, e372_477, e372_478, e372_479, e372_482, e372_484, e372_485, e372_486, e372_488, e372_489, e372_490, e372_491, e372_492, e372_494, e372_495, e372_496, e372_497, e372_500, e372_502, e372_503, e372_506, e372_508, e372_511, e372_512, e372_513, e372_515, e372_518, e372_519, e372_520, e372_521, e372_523, e372_524, e372_525, e372_528, e372_529, e372_530, e372_1507, e372_1510, hh, h3, hk, sw_6, r_thrown, zcmp_0]
  · have h1 : zEm true 119 7 [(29, 0, 0), (0, M (-2) (i + 1), 0), (0, M (-2) (i + 2), 0)] M = some ((99, 0, 0), zthr M) := h1
    have hh : zEm true 120 374 [(29, 0, 0), (0, M (-2) (i + 1), 0), (0, M (-2) (i + 2), 0), (11, 219, 1)] M = some ((0, 1, 0), zthr M) := by
      rw [h0]
      exact zhelp_9 h1
    have h3 : zEm true 120 218 [(30, 197, 0), (0, M (-2) (i + 1), 0), (0, M (-2) (i + 2), 0)] (zthr M) = some ((0, 0, 0), zup (zup (zthr M) 197 0 0) 197 0 1) := zEm_up 119 _ _ _ _ h2
    have t1 : ∀ y, zthr M (-2) y = M (-2) y := fun y => zthr_o (by omega)
    refine ⟨zup (zup (zthr M) 197 0 0) 197 0 1, (0, 1, 0), (0, 0, 0), ?_, Rel_fr hR (fun x y z1 z2 z3 => ?_) (Nat.le_refl _), ?_⟩
    · unfold lawL
      rw [e372_23]
      simp (disch := first | assumption | exact zrm0 | exact zrm1 _ | exact zrm2 _ _ | exact zrm3 _ _ _ | exact zrm4 _ _ _ _ | omega) only [↓k_dp, ↓k_dn, k_dp, k_dn, k_dT, k_dF, k_ip, k_in, if_true, if_false, ne_eq, not_true_eq_false, not_false_eq_true, Int.reduceAdd, zup_a, zup_e, zup_j, z32_id, k_il4, k_al0, k_len, k_ic, k_isub, k_icgt, k_ild, k_ildS, k_ildW, k_iand, k_al1, k_iadd, k_al3, k_s4r, k_is5, k_al2, k_v3r, k_is6, k_v1r, k_il5, k_iceq, k_rz, k_ifne, k_lld, k_il6, k_i2l, k_lcmp, k_ifeq, k_goto, k_inc4, zb0_some, zb1_some, e372_25, e372_26, e372_27, e372_29, e372_30, e372_33, e372_34, e372_36, e372_37, e372_39, e372_465, e372_466, e372_467, e372_469, e372_470, e372_471, e372_472, e372_473, e372_475, e372_476, e372_477, e372_478, e372_479, e372_482, e372_484, e372_485, e372_486, e372_488, e372_489, e372_490, e372_491, e372_492, e372_494, e372_495, e372_496, e372_497, e372_500, e372_502, e372_503, e372_506, e372_508, e372_511, e372_512, e372_513, e372_515, e372_518, e372_519, e372_520, e372_521, e372_523, e372_524, e372_525, e372_528, e372_529, e372_530, e372_1507, e372_1510, hh, h3, hk, sw_6, r_thrown, t1]
    · rw [zup_f z2, zup_f z2]
      unfold zthr
      split
      · rename_i hx
        rw [if_neg (by omega), if_neg (by omega)]
      · rfl
    · have e1 : zup (zup (zthr M) 197 0 0) 197 0 1 (-1) 1 = M (-1) 1 + 1 := by rw [zup_f (by omega), zup_f (by omega)]; rfl
      have e2 : zup (zup (zthr M) 197 0 0) 197 0 1 (-1) 2 = M (-1) 2 + 6 := by rw [zup_f (by omega), zup_f (by omega)]; rfl
      have e3 : zup (zup (zthr M) 197 0 0) 197 0 1 54 1000 = M 54 1000 := by rw [zup_f (by omega), zup_f (by omega)]; exact zthr_o (by omega)
      unfold zPotN
      rw [e1, e2, e3]
      omega
theorem zand_63 (x : Int) : 0 ≤ zand x 63 ∧ zand x 63 ≤ 63 := by
  have h := zand_le (a := 63) (b := x) (by omega) (by omega)
  have e : zand x 63 = zand 63 x := by
    unfold zand
    rw [Int32.and_comm]
  rw [e]
  exact h
theorem law_no {M : zM} (hR : Rel M) {i L : Int} (l5 l6 : zV) (i0 : 0 ≤ i) (iL : i + 6 ≤ L) (L1 : L ≤ 3072) (hk : 45 ≤ zand (M (-2) i) 63) : zEv true 120 372 23 (lawL L i l5 l6) [] M = zEv true 120 372 23 (lawL L (i + 6) l5 l6) [] M := by
  have h63 := (zand_63 (M (-2) i)).2
  rcases (show zand (M (-2) i) 63 = 45 ∨ zand (M (-2) i) 63 = 46 ∨ zand (M (-2) i) 63 = 47 ∨ zand (M (-2) i) 63 = 48 ∨ zand (M (-2) i) 63 = 49 ∨ zand (M (-2) i) 63 = 50 ∨ zand (M (-2) i) 63 = 51 ∨ zand (M (-2) i) 63 = 52 ∨ zand (M (-2) i) 63 = 53 ∨ zand (M (-2) i) 63 = 54 ∨ zand (M (-2) i) 63 = 55 ∨ zand (M (-2) i) 63 = 56 ∨ zand (M (-2) i) 63 = 57 ∨ zand (M (-2) i) 63 = 58 ∨ zand (M (-2) i) 63 = 59 ∨ zand (M (-2) i) 63 = 60 ∨ zand (M (-2) i) 63 = 61 ∨ zand (M (-2) i) 63 = 62 ∨ zand (M (-2) i) 63 = 63 by omega) with hk | hk | hk | hk | hk | hk | hk | hk | hk | hk | hk | hk | hk | hk | hk | hk | hk | hk | hk
  · unfold lawL
    rw [e372_23]
    simp (disch := first | assumption | exact zrm0 | exact zrm1 _ | exact zrm2 _ _ | exact zrm3 _ _ _ | exact zrm4 _ _ _ _ | omega) only [↓k_dp, ↓k_dn, k_dp, k_dn, k_dT, k_dF, k_ip, k_in, if_true, if_false, ne_eq, not_true_eq_false, not_false_eq_true, Int.reduceAdd, zup_a, zup_e, zup_j, z32_id, k_il4, k_al0, k_len, k_ic, k_isub, k_icgt, k_ild, k_ildS, k_ildW, k_iand, k_inc4, k_goto, zb0_some, zb1_some, e372_25, e372_26, e372_27, e372_29, e372_30, e372_33, e372_34, e372_36, e372_37, e372_39, e372_1507, e372_1510, hk, sw_45]
  · unfold lawL
    rw [e372_23]
    simp (disch := first | assumption | exact zrm0 | exact zrm1 _ | exact zrm2 _ _ | exact zrm3 _ _ _ | exact zrm4 _ _ _ _ | omega) only [↓k_dp, ↓k_dn, k_dp, k_dn, k_dT, k_dF, k_ip, k_in, if_true, if_false, ne_eq, not_true_eq_false, not_false_eq_true, Int.reduceAdd, zup_a, zup_e, zup_j, z32_id, k_il4, k_al0, k_len, k_ic, k_isub, k_icgt, k_ild, k_ildS, k_ildW, k_iand, k_inc4, k_goto, zb0_some, zb1_some, e372_25, e372_26, e372_27, e372_29, e372_30, e372_33, e372_34, e372_36, e372_37, e372_39, e372_1507, e372_1510, hk, sw_46]
  · unfold lawL
    rw [e372_23]
    simp (disch := first | assumption | exact zrm0 | exact zrm1 _ | exact zrm2 _ _ | exact zrm3 _ _ _ | exact zrm4 _ _ _ _ | omega) only [↓k_dp, ↓k_dn, k_dp, k_dn, k_dT, k_dF, k_ip, k_in, if_true, if_false, ne_eq, not_true_eq_false, not_false_eq_true, Int.reduceAdd, zup_a, zup_e, zup_j, z32_id, k_il4, k_al0, k_len, k_ic, k_isub, k_icgt, k_ild, k_ildS, k_ildW, k_iand, k_inc4, k_goto, zb0_some, zb1_some, e372_25, e372_26, e372_27, e372_29, e372_30, e372_33, e372_34, e372_36, e372_37, e372_39, e372_1507, e372_1510, hk, sw_47]
  · unfold lawL
    rw [e372_23]
    simp (disch := first | assumption | exact zrm0 | exact zrm1 _ | exact zrm2 _ _ | exact zrm3 _ _ _ | exact zrm4 _ _ _ _ | omega) only [↓k_dp, ↓k_dn, k_dp, k_dn, k_dT, k_dF, k_ip, k_in, if_true, if_false, ne_eq, not_true_eq_false, not_false_eq_true, Int.reduceAdd, zup_a, zup_e, zup_j, z32_id, k_il4, k_al0, k_len, k_ic, k_isub, k_icgt, k_ild, k_ildS, k_ildW, k_iand, k_inc4, k_goto, zb0_some, zb1_some, e372_25, e372_26, e372_27, e372_29, e372_30, e372_33, e372_34, e372_36, e372_37, e372_39, e372_1507, e372_1510, hk, sw_48]
  · unfold lawL
    rw [e372_23]
    simp (disch := first | assumption | exact zrm0 | exact zrm1 _ | exact zrm2 _ _ | exact zrm3 _ _ _ | exact zrm4 _ _ _ _ | omega) only [↓k_dp, ↓k_dn, k_dp, k_dn, k_dT, k_dF, k_ip, k_in, if_true, if_false, ne_eq, not_true_eq_false, not_false_eq_true, Int.reduceAdd, zup_a, zup_e, zup_j, z32_id, k_il4, k_al0, k_len, k_ic, k_isub, k_icgt, k_ild, k_ildS, k_ildW, k_iand, k_inc4, k_goto, zb0_some, zb1_some, e372_25, e372_26, e372_27, e372_29, e372_30, e372_33, e372_34, e372_36, e372_37, e372_39, e372_1507, e372_1510, hk, sw_49]
  · unfold lawL
    rw [e372_23]
    simp (disch := first | assumption | exact zrm0 | exact zrm1 _ | exact zrm2 _ _ | exact zrm3 _ _ _ | exact zrm4 _ _ _ _ | omega) only [↓k_dp, ↓k_dn, k_dp, k_dn, k_dT, k_dF, k_ip, k_in, if_true, if_false, ne_eq, not_true_eq_false, not_false_eq_true, Int.reduceAdd, zup_a, zup_e, zup_j, z32_id, k_il4, k_al0, k_len, k_ic, k_isub, k_icgt, k_ild, k_ildS, k_ildW, k_iand, k_inc4, k_goto, zb0_some, zb1_some, e372_25, e372_26, e372_27, e372_29, e372_30, e372_33, e372_34, e372_36, e372_37, e372_39, e372_1507, e372_1510, hk, sw_50]
  · unfold lawL
    rw [e372_23]
    simp (disch := first | assumption | exact zrm0 | exact zrm1 _ | exact zrm2 _ _ | exact zrm3 _ _ _ | exact zrm4 _ _ _ _ | omega) only [↓k_dp, ↓k_dn, k_dp, k_dn, k_dT, k_dF, k_ip, k_in, if_true, if_false, ne_eq, not_true_eq_false, not_false_eq_true, Int.reduceAdd, zup_a, zup_e, zup_j, z32_id, k_il4, k_al0, k_len, k_ic, k_isub, k_icgt, k_ild, k_ildS, k_ildW, k_iand, k_inc4, k_goto, zb0_some, zb1_some, e372_25, e372_26, e372_27, e372_29, e372_30, e372_33, e372_34, e372_36, e372_37, e372_39, e372_1507, e372_1510, hk, sw_51]
  · unfold lawL
    rw [e372_23]
    simp (disch := first | assumption | exact zrm0 | exact zrm1 _ | exact zrm2 _ _ | exact zrm3 _ _ _ | exact zrm4 _ _ _ _ | omega) only [↓k_dp, ↓k_dn, k_dp, k_dn, k_dT, k_dF, k_ip, k_in, if_true, if_false, ne_eq, not_true_eq_false, not_false_eq_true, Int.reduceAdd, zup_a, zup_e, zup_j, z32_id, k_il4, k_al0, k_len, k_ic, k_isub, k_icgt, k_ild, k_ildS, k_ildW, k_iand, k_inc4, k_goto, zb0_some, zb1_some, e372_25, e372_26, e372_27, e372_29, e372_30, e372_33, e372_34, e372_36, e372_37, e372_39, e372_1507, e372_1510, hk, sw_52]
  · unfold lawL
    rw [e372_23]
    simp (disch := first | assumption | exact zrm0 | exact zrm1 _ | exact zrm2 _ _ | exact zrm3 _ _ _ | exact zrm4 _ _ _ _ | omega) only [↓k_dp, ↓k_dn, k_dp, k_dn, k_dT, k_dF, k_ip, k_in, if_true, if_false, ne_eq, not_true_eq_false, not_false_eq_true, Int.reduceAdd, zup_a, zup_e, zup_j, z32_id, k_il4, k_al0, k_len, k_ic, k_isub, k_icgt, k_ild, k_ildS, k_ildW, k_iand, k_inc4, k_goto, zb0_some, zb1_some, e372_25, e372_26, e372_27, e372_29, e372_30, e372_33, e372_34, e372_36, e372_37, e372_39, e372_1507, e372_1510, hk, sw_53]
  · unfold lawL
    rw [e372_23]
    simp (disch := first | assumption | exact zrm0 | exact zrm1 _ | exact zrm2 _ _ | exact zrm3 _ _ _ | exact zrm4 _ _ _ _ | omega) only [↓k_dp, ↓k_dn, k_dp, k_dn, k_dT, k_dF, k_ip, k_in, if_true, if_false, ne_eq, not_true_eq_false, not_false_eq_true, Int.reduceAdd, zup_a, zup_e, zup_j, z32_id, k_il4, k_al0, k_len, k_ic, k_isub, k_icgt, k_ild, k_ildS, k_ildW, k_iand, k_inc4, k_goto, zb0_some, zb1_some, e372_25, e372_26, e372_27, e372_29, e372_30, e372_33, e372_34, e372_36, e372_37, e372_39, e372_1507, e372_1510, hk, sw_54]
  · unfold lawL
    rw [e372_23]
    simp (disch := first | assumption | exact zrm0 | exact zrm1 _ | exact zrm2 _ _ | exact zrm3 _ _ _ | exact zrm4 _ _ _ _ | omega) only [↓k_dp, ↓k_dn, k_dp, k_dn, k_dT, k_dF, k_ip, k_in, if_true, if_false, ne_eq, not_true_eq_false, not_false_eq_true, Int.reduceAdd, zup_a, zup_e, zup_j, z32_id, k_il4, k_al0, k_len, k_ic, k_isub, k_icgt, k_ild, k_ildS, k_ildW, k_iand, k_inc4, k_goto, zb0_some, zb1_some, e372_25, e372_26, e372_27, e372_29, e372_30, e372_33, e372_34, e372_36, e372_37, e372_39, e372_1507, e372_1510, hk, sw_55]
  · unfold lawL
    rw [e372_23]
    simp (disch := first | assumption | exact zrm0 | exact zrm1 _ | exact zrm2 _ _ | exact zrm3 _ _ _ | exact zrm4 _ _ _ _ | omega) only [↓k_dp, ↓k_dn, k_dp, k_dn, k_dT, k_dF, k_ip, k_in, if_true, if_false, ne_eq, not_true_eq_false, not_false_eq_true, Int.reduceAdd, zup_a, zup_e, zup_j, z32_id, k_il4, k_al0, k_len, k_ic, k_isub, k_icgt, k_ild, k_ildS, k_ildW, k_iand, k_inc4, k_goto, zb0_some, zb1_some, e372_25, e372_26, e372_27, e372_29, e372_30, e372_33, e372_34, e372_36, e372_37, e372_39, e372_1507, e372_1510, hk, sw_56]
  · unfold lawL
    rw [e372_23]
    simp (disch := first | assumption | exact zrm0 | exact zrm1 _ | exact zrm2 _ _ | exact zrm3 _ _ _ | exact zrm4 _ _ _ _ | omega) only [↓k_dp, ↓k_dn, k_dp, k_dn, k_dT, k_dF, k_ip, k_in, if_true, if_false, ne_eq, not_true_eq_false, not_false_eq_true, Int.reduceAdd, zup_a, zup_e, zup_j, z32_id, k_il4, k_al0, k_len, k_ic, k_isub, k_icgt, k_ild, k_ildS, k_ildW, k_iand, k_inc4, k_goto, zb0_some, zb1_some, e372_25, e372_26, e372_27, e372_29, e372_30, e372_33, e372_34, e372_36, e372_37, e372_39, e372_1507, e372_1510, hk, sw_57]
  · unfold lawL
    rw [e372_23]
    simp (disch := first | assumption | exact zrm0 | exact zrm1 _ | exact zrm2 _ _ | exact zrm3 _ _ _ | exact zrm4 _ _ _ _ | omega) only [↓k_dp, ↓k_dn, k_dp, k_dn, k_dT, k_dF, k_ip, k_in, if_true, if_false, ne_eq, not_true_eq_false, not_false_eq_true, Int.reduceAdd, zup_a, zup_e, zup_j, z32_id, k_il4, k_al0, k_len, k_ic, k_isub, k_icgt, k_ild, k_ildS, k_ildW, k_iand, k_inc4, k_goto, zb0_some, zb1_some, e372_25, e372_26, e372_27, e372_29, e372_30, e372_33, e372_34, e372_36, e372_37, e372_39, e372_1507, e372_1510, hk, sw_58]
  · unfold lawL
    rw [e372_23]
    simp (disch := first | assumption | exact zrm0 | exact zrm1 _ | exact zrm2 _ _ | exact zrm3 _ _ _ | exact zrm4 _ _ _ _ | omega) only [↓k_dp, ↓k_dn, k_dp, k_dn, k_dT, k_dF, k_ip, k_in, if_true, if_false, ne_eq, not_true_eq_false, not_false_eq_true, Int.reduceAdd, zup_a, zup_e, zup_j, z32_id, k_il4, k_al0, k_len, k_ic, k_isub, k_icgt, k_ild, k_ildS, k_ildW, k_iand, k_inc4, k_goto, zb0_some, zb1_some, e372_25, e372_26, e372_27, e372_29, e372_30, e372_33, e372_34, e372_36, e372_37, e372_39, e372_1507, e372_1510, hk, sw_59]
  · unfold lawL
    rw [e372_23]
    simp (disch := first | assumption | exact zrm0 | exact zrm1 _ | exact zrm2 _ _ | exact zrm3 _ _ _ | exact zrm4 _ _ _ _ | omega) only [↓k_dp, ↓k_dn, k_dp, k_dn, k_dT, k_dF, k_ip, k_in, if_true, if_false, ne_eq, not_true_eq_false, not_false_eq_true, Int.reduceAdd, zup_a, zup_e, zup_j, z32_id, k_il4, k_al0, k_len, k_ic, k_isub, k_icgt, k_ild, k_ildS, k_ildW, k_iand, k_inc4, k_goto, zb0_some, zb1_some, e372_25, e372_26, e372_27, e372_29, e372_30, e372_33, e372_34, e372_36, e372_37, e372_39, e372_1507, e372_1510, hk, sw_60]
  · unfold lawL
    rw [e372_23]
    simp (disch := first | assumption | exact zrm0 | exact zrm1 _ | exact zrm2 _ _ | exact zrm3 _ _ _ | exact zrm4 _ _ _ _ | omega) only [↓k_dp, ↓k_dn, k_dp, k_dn, k_dT, k_dF, k_ip, k_in, if_true, if_false, ne_eq, not_true_eq_false, not_false_eq_true, Int.reduceAdd, zup_a, zup_e, zup_j, z32_id, k_il4, k_al0, k_len, k_ic, k_isub, k_icgt, k_ild, k_ildS, k_ildW, k_iand, k_inc4, k_goto, zb0_some, zb1_some, e372_25, e372_26, e372_27, e372_29, e372_30, e372_33, e372_34, e372_36, e372_37, e372_39, e372_1507, e372_1510, hk, sw_61]
  · unfold lawL
    rw [e372_23]
    simp (disch := first | assumption | exact zrm0 | exact zrm1 _ | exact zrm2 _ _ | exact zrm3 _ _ _ | exact zrm4 _ _ _ _ | omega) only [↓k_dp, ↓k_dn, k_dp, k_dn, k_dT, k_dF, k_ip, k_in, if_true, if_false, ne_eq, not_true_eq_false, not_false_eq_true, Int.reduceAdd, zup_a, zup_e, zup_j, z32_id, k_il4, k_al0, k_len, k_ic, k_isub, k_icgt, k_ild, k_ildS, k_ildW, k_iand, k_inc4, k_goto, zb0_some, zb1_some, e372_25, e372_26, e372_27, e372_29, e372_30, e372_33, e372_34, e372_36, e372_37, e372_39, e372_1507, e372_1510, hk, sw_62]
  · unfold lawL
    rw [e372_23]
    simp (disch := first | assumption | exact zrm0 | exact zrm1 _ | exact zrm2 _ _ | exact zrm3 _ _ _ | exact zrm4 _ _ _ _ | omega) only [↓k_dp, ↓k_dn, k_dp, k_dn, k_dT, k_dF, k_ip, k_in, if_true, if_false, ne_eq, not_true_eq_false, not_false_eq_true, Int.reduceAdd, zup_a, zup_e, zup_j, z32_id, k_il4, k_al0, k_len, k_ic, k_isub, k_icgt, k_ild, k_ildS, k_ildW, k_iand, k_inc4, k_goto, zb0_some, zb1_some, e372_25, e372_26, e372_27, e372_29, e372_30, e372_33, e372_34, e372_36, e372_37, e372_39, e372_1507, e372_1510, hk, sw_63]
theorem law_it {M : zM} (hR : Rel M) {i L : Int} (l5 l6 : zV) (i0 : 0 ≤ i) (iL : i + 6 ≤ L) (L1 : L ≤ 3072) : ∃ M2 l5' l6', zEv true 120 372 23 (lawL L i l5 l6) [] M = zEv true 120 372 23 (lawL L (i + 6) l5' l6') [] M2 ∧ Rel M2 ∧ zPotN 1 M M2 := by
  have h63 := zand_63 (M (-2) i)
  by_cases c45 : 45 ≤ zand (M (-2) i) 63
  · exact ⟨M, l5, l6, law_no hR l5 l6 i0 iL L1 c45, hR, zPotN_of ⟨Int.le_refl _, Int.le_refl _⟩⟩
  have one : (∃ M2, zEv true 120 372 23 (lawL L i l5 l6) [] M = zEv true 120 372 23 (lawL L (i + 6) l5 l6) [] M2 ∧ Rel M2 ∧ zPot M M2) → ∃ M2 l5' l6', zEv true 120 372 23 (lawL L i l5 l6) [] M = zEv true 120 372 23 (lawL L (i + 6) l5' l6') [] M2 ∧ Rel M2 ∧ zPotN 1 M M2 := fun ⟨M2, a, b, c⟩ => ⟨M2, l5, l6, a, b, zPotN_of c⟩
  rcases (show zand (M (-2) i) 63 = 0 ∨ zand (M (-2) i) 63 = 1 ∨ zand (M (-2) i) 63 = 2 ∨ zand (M (-2) i) 63 = 3 ∨ zand (M (-2) i) 63 = 4 ∨ zand (M (-2) i) 63 = 5 ∨ zand (M (-2) i) 63 = 6 ∨ zand (M (-2) i) 63 = 7 ∨ zand (M (-2) i) 63 = 8 ∨ zand (M (-2) i) 63 = 9 ∨ zand (M (-2) i) 63 = 10 ∨ zand (M (-2) i) 63 = 11 ∨ zand (M (-2) i) 63 = 12 ∨ zand (M (-2) i) 63 = 13 ∨ zand (M (-2) i) 63 = 14 ∨ zand (M (-2) i) 63 = 15 ∨ zand (M (-2) i) 63 = 16 ∨ zand (M (-2) i) 63 = 17 ∨ zand (M (-2) i) 63 = 18 ∨ zand (M (-2) i) 63 = 19 ∨ zand (M (-2) i) 63 = 20 ∨ zand (M (-2) i) 63 = 21 ∨ zand (M (-2) i) 63 = 22 ∨ zand (M (-2) i) 63 = 23 ∨ zand (M (-2) i) 63 = 24 ∨ zand (M (-2) i) 63 = 25 ∨ zand (M (-2) i) 63 = 26 ∨ zand (M (-2) i) 63 = 27 ∨ zand (M (-2) i) 63 = 28 ∨ zand (M (-2) i) 63 = 29 ∨ zand (M (-2) i) 63 = 30 ∨ zand (M (-2) i) 63 = 31 ∨ zand (M (-2) i) 63 = 32 ∨ zand (M (-2) i) 63 = 33 ∨ zand (M (-2) i) 63 = 34 ∨ zand (M (-2) i) 63 = 35 ∨ zand (M (-2) i) 63 = 36 ∨ zand (M (-2) i) 63 = 37 ∨ zand (M (-2) i) 63 = 38 ∨ zand (M (-2) i) 63 = 39 ∨ zand (M (-2) i) 63 = 40 ∨ zand (M (-2) i) 63 = 41 ∨ zand (M (-2) i) 63 = 42 ∨ zand (M (-2) i) 63 = 43 ∨ zand (M (-2) i) 63 = 44 by omega) with hk | hk | hk | hk | hk | hk | hk | hk | hk | hk | hk | hk | hk | hk | hk | hk | hk | hk | hk | hk | hk | hk | hk | hk | hk | hk | hk | hk | hk | hk | hk | hk | hk | hk | hk | hk | hk | hk | hk | hk | hk | hk | hk | hk | hk
  · exact one (law_0 hR l5 l6 i0 iL L1 hk)
  · exact one (law_1 hR l5 l6 i0 iL L1 hk)
  · exact one (law_2 hR l5 l6 i0 iL L1 hk)
  · exact one (law_3 hR l5 l6 i0 iL L1 hk)
  · exact law_4 hR l5 l6 i0 iL L1 hk
  · exact one (law_5 hR l5 l6 i0 iL L1 hk)
  · exact law_6 hR l5 l6 i0 iL L1 hk
  · exact one (law_7 hR l5 l6 i0 iL L1 hk)
  · exact one (law_8 hR l5 l6 i0 iL L1 hk)
  · exact one (law_9 hR l5 l6 i0 iL L1 hk)
  · exact one (law_10 hR l5 l6 i0 iL L1 hk)
  · exact one (law_11 hR l5 l6 i0 iL L1 hk)
  · exact one (law_12 hR l5 l6 i0 iL L1 hk)
  · exact one (law_13 hR l5 l6 i0 iL L1 hk)
  · exact one (law_14 hR l5 l6 i0 iL L1 hk)
  · exact one (law_15 hR l5 l6 i0 iL L1 hk)
  · exact one (law_16 hR l5 l6 i0 iL L1 hk)
  · exact one (law_17 hR l5 l6 i0 iL L1 hk)
  · exact one (law_18 hR l5 l6 i0 iL L1 hk)
  · exact one (law_19 hR l5 l6 i0 iL L1 hk)
  · exact one (law_20 hR l5 l6 i0 iL L1 hk)
  · exact one (law_21 hR l5 l6 i0 iL L1 hk)
  · exact one (law_22 hR l5 l6 i0 iL L1 hk)
  · exact one (law_23 hR l5 l6 i0 iL L1 hk)
  · exact one (law_24 hR l5 l6 i0 iL L1 hk)
  · exact one (law_25 hR l5 l6 i0 iL L1 hk)
  · exact one (law_26 hR l5 l6 i0 iL L1 hk)
  · exact one (law_27 hR l5 l6 i0 iL L1 hk)
  · exact one (law_28 hR l5 l6 i0 iL L1 hk)
  · exact one (law_29 hR l5 l6 i0 iL L1 hk)
  · exact one (law_30 hR l5 l6 i0 iL L1 hk)
  · exact one (law_31 hR l5 l6 i0 iL L1 hk)
  · exact one (law_32 hR l5 l6 i0 iL L1 hk)
  · exact one (law_33 hR l5 l6 i0 iL L1 hk)
  · exact one (law_34 hR l5 l6 i0 iL L1 hk)
  · exact one (law_35 hR l5 l6 i0 iL L1 hk)
  · exact one (law_36 hR l5 l6 i0 iL L1 hk)
  · exact one (law_37 hR l5 l6 i0 iL L1 hk)
  · exact one (law_38 hR l5 l6 i0 iL L1 hk)
  · exact one (law_39 hR l5 l6 i0 iL L1 hk)
  · exact one (law_40 hR l5 l6 i0 iL L1 hk)
  · exact one (law_41 hR l5 l6 i0 iL L1 hk)
  · exact one (law_42 hR l5 l6 i0 iL L1 hk)
  · exact one (law_43 hR l5 l6 i0 iL L1 hk)
  · exact one (law_44 hR l5 l6 i0 iL L1 hk)
theorem law_loop {L : Int} (L1 : L ≤ 3072) : ∀ (n : Nat) (i : Int) (M : zM) (l5 l6 : zV), Rel M → 0 ≤ i → i ≤ L → L - i ≤ 6 * (n : Int) + 5 → ∃ M', zEv true 120 372 23 (lawL L i l5 l6) [] M = some ((0, 1, 0), M') ∧ zPotN n M M'
  | n, i, M, l5, l6, hR, i0, i1, hn => by
    by_cases c : i + 6 ≤ L
    · match n, hn with
      | 0, hn => omega
      | n + 1, hn =>
        obtain ⟨M2, l5', l6', a, b, p⟩ := law_it hR l5 l6 i0 c L1
        obtain ⟨M', a2, p2⟩ := law_loop L1 n (i + 6) M2 l5' l6' b (by omega) (by omega) (by omega)
        refine ⟨M', a.trans a2, ?_⟩
        have := zPotN_t p p2
        rw [show (((n + 1 : Nat)) : Int) = 1 + (n : Int) by omega]
        exact this
    · refine ⟨M, ?_, by unfold zPotN; omega⟩
      unfold lawL
      rw [e372_23]
      simp (disch := first | assumption | exact zrm0 | exact zrm1 _ | exact zrm2 _ _ | exact zrm3 _ _ _ | exact zrm4 _ _ _ _ | omega) only [↓k_dp, ↓k_dn, k_dp, k_dn, k_dT, k_dF, k_ip, k_in, if_true, if_false, ne_eq, not_true_eq_false, not_false_eq_true, Int.reduceAdd, zup_a, zup_e, zup_j, z32_id, k_il4, k_al0, k_len, k_ic, k_isub, k_icgt, k_rz, zb0_some, zb1_some, e372_25, e372_26, e372_27, e372_29, e372_30, e372_1513, e372_1514]
