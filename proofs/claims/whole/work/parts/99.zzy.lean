/-! one round of the law's loop -/
def lawL (L i : Int) (l5 l6 : zV) : List zV := [(16, -2, L), (29, 0, 0), (30, 197, 0), (11, 219, 1), (0, i, 0), l5, l6]
theorem posl1 {t x n : Int} (h : zposv (t, x, n)) : zposl [(t, x, n)] := zposl_c.mpr ⟨h, zposl_nil⟩
theorem pos0 {x n : Int} : zposv (0, x, n) := zposv_lt (by omega)
theorem posR {M : zM} (h : Rel M) : 0 ≤ M (-1) 0 := by
  obtain ⟨-, -, -, hI, -⟩ := h
  have := hI.1
  omega
theorem law_0 {M : zM} (hR : Rel M) {i L : Int} (l5 l6 : zV) (i0 : 0 ≤ i) (iL : i + 6 ≤ L) (L1 : L ≤ 3072) (hk : zand (M (-2) i) 63 = 0) : ∃ M2, zEv true 120 372 23 (lawL L i l5 l6) [] M = zEv true 120 372 23 (lawL L (i + 6) l5 l6) [] M2 ∧ Rel M2 ∧ zPot M M2 := by
  obtain ⟨v, M1, M2, h1, h2, h3, h4⟩ := st_feed (M (-2) (i + 1)) (M (-2) (i + 2)) (M (-2) (i + 3)) (M (-2) (i + 4)) (M (-2) (i + 5)) hR
  have h1 : zEm true 120 1 [(29, 0, 0), (0, M (-2) (i + 1), 0), (0, M (-2) (i + 2), 0), (0, M (-2) (i + 3), 0), (0, M (-2) (i + 4), 0), (0, M (-2) (i + 5), 0)] M = some ((0, v, 0), M1) := h1
  have h2 : zEm true 120 165 [(30, 197, 0), (0, M (-2) (i + 1), 0), (0, M (-2) (i + 2), 0), (0, M (-2) (i + 3), 0), (0, M (-2) (i + 4), 0), (0, M (-2) (i + 5), 0)] M1 = some ((0, v, 0), M2) := h2
  have hrow := (zEm_k 120 _ _ _ _ _ h1 (zposl_c.mpr ⟨zposv_ge (by omega), zposl_c.mpr ⟨pos0, zposl_c.mpr ⟨pos0, zposl_c.mpr ⟨pos0, zposl_c.mpr ⟨pos0, zposl_c.mpr ⟨pos0, zposl_nil⟩⟩⟩⟩⟩⟩) (posR hR)).2.2
  refine ⟨M2, ?_, h3, h4⟩
  unfold lawL
  rw [e372_23]
  simp (disch := first | assumption | exact zrm0 | exact zrm1 _ | exact zrm2 _ _ | exact zrm3 _ _ _ | exact zrm4 _ _ _ _ | omega) only [↓k_dp, ↓k_dn, k_dp, k_dn, k_dT, k_dF, k_ip, k_in, if_true, if_false, ne_eq, not_true_eq_false, not_false_eq_true, Int.reduceAdd, zup_a, zup_e, zup_j, z32_id, k_il4, k_al0, k_len, k_ic, k_isub, k_icgt, k_ild, k_ildS, k_ildW, k_iand, k_al1, k_iadd, k_v6r, k_al2, k_iceq, k_rz, k_inc4, k_goto, zb0_some, zb1_some, e372_25, e372_26, e372_27, e372_29, e372_30, e372_33, e372_34, e372_36, e372_37, e372_39, e372_236, e372_237, e372_238, e372_240, e372_241, e372_242, e372_243, e372_244, e372_246, e372_247, e372_248, e372_249, e372_250, e372_252, e372_253, e372_254, e372_255, e372_256, e372_258, e372_259, e372_260, e372_261, e372_262, e372_264, e372_265, e372_266, e372_267, e372_270, e372_271, e372_272, e372_274, e372_275, e372_276, e372_277, e372_278, e372_280, e372_281, e372_282, e372_283, e372_284, e372_286, e372_287, e372_288, e372_289, e372_290, e372_292, e372_293, e372_294, e372_295, e372_296, e372_298, e372_299, e372_300, e372_301, e372_304, e372_307, e372_308, e372_1507, e372_1510, h1, h2, hk, sw_0, hrow]
theorem law_1 {M : zM} (hR : Rel M) {i L : Int} (l5 l6 : zV) (i0 : 0 ≤ i) (iL : i + 6 ≤ L) (L1 : L ≤ 3072) (hk : zand (M (-2) i) 63 = 1) : ∃ M2, zEv true 120 372 23 (lawL L i l5 l6) [] M = zEv true 120 372 23 (lawL L (i + 6) l5 l6) [] M2 ∧ Rel M2 ∧ zPot M M2 := by
  obtain ⟨v, M1, M2, h1, h2, h3, h4⟩ := st_end (M (-2) (i + 1)) hR
  have h1 : zEm true 120 2 [(29, 0, 0), (0, M (-2) (i + 1), 0)] M = some ((0, v, 0), M1) := h1
  have h2 : zEm true 120 166 [(30, 197, 0), (0, M (-2) (i + 1), 0)] M1 = some ((0, v, 0), M2) := h2
  have hrow := (zEm_k 120 _ _ _ _ _ h1 (zposl_c.mpr ⟨zposv_ge (by omega), zposl_c.mpr ⟨pos0, zposl_nil⟩⟩) (posR hR)).2.2
  refine ⟨M2, ?_, h3, h4⟩
  unfold lawL
  rw [e372_23]
  simp (disch := first | assumption | exact zrm0 | exact zrm1 _ | exact zrm2 _ _ | exact zrm3 _ _ _ | exact zrm4 _ _ _ _ | omega) only [↓k_dp, ↓k_dn, k_dp, k_dn, k_dT, k_dF, k_ip, k_in, if_true, if_false, ne_eq, not_true_eq_false, not_false_eq_true, Int.reduceAdd, zup_a, zup_e, zup_j, z32_id, k_il4, k_al0, k_len, k_ic, k_isub, k_icgt, k_ild, k_ildS, k_ildW, k_iand, k_al1, k_iadd, k_v2r, k_al2, k_iceq, k_rz, k_inc4, k_goto, zb0_some, zb1_some, e372_25, e372_26, e372_27, e372_29, e372_30, e372_33, e372_34, e372_36, e372_37, e372_39, e372_309, e372_310, e372_311, e372_313, e372_314, e372_315, e372_316, e372_319, e372_320, e372_321, e372_323, e372_324, e372_325, e372_326, e372_329, e372_332, e372_333, e372_1507, e372_1510, h1, h2, hk, sw_1, hrow]
theorem law_2 {M : zM} (hR : Rel M) {i L : Int} (l5 l6 : zV) (i0 : 0 ≤ i) (iL : i + 6 ≤ L) (L1 : L ≤ 3072) (hk : zand (M (-2) i) 63 = 2) : ∃ M2, zEv true 120 372 23 (lawL L i l5 l6) [] M = zEv true 120 372 23 (lawL L (i + 6) l5 l6) [] M2 ∧ Rel M2 ∧ zPot M M2 := by
  obtain ⟨v, M1, M2, h1, h2, h3, h4⟩ := st_valley  hR
  have h1 : zEm true 120 3 [(29, 0, 0)] M = some ((0, v, 0), M1) := h1
  have h2 : zEm true 120 203 [(30, 197, 0)] M1 = some ((0, v, 0), M2) := h2
  have hrow := (zEm_k 120 _ _ _ _ _ h1 (zposl_c.mpr ⟨zposv_ge (by omega), zposl_nil⟩) (posR hR)).2.2
  refine ⟨M2, ?_, h3, h4⟩
  unfold lawL
  rw [e372_23]
  simp (disch := first | assumption | exact zrm0 | exact zrm1 _ | exact zrm2 _ _ | exact zrm3 _ _ _ | exact zrm4 _ _ _ _ | omega) only [↓k_dp, ↓k_dn, k_dp, k_dn, k_dT, k_dF, k_ip, k_in, if_true, if_false, ne_eq, not_true_eq_false, not_false_eq_true, Int.reduceAdd, zup_a, zup_e, zup_j, z32_id, k_il4, k_al0, k_len, k_ic, k_isub, k_icgt, k_ild, k_ildS, k_ildW, k_iand, k_al1, k_v1r, k_al2, k_iceq, k_rz, k_inc4, k_goto, zb0_some, zb1_some, e372_25, e372_26, e372_27, e372_29, e372_30, e372_33, e372_34, e372_36, e372_37, e372_39, e372_334, e372_335, e372_338, e372_339, e372_342, e372_345, e372_346, e372_1507, e372_1510, h1, h2, hk, sw_2]
theorem law_3 {M : zM} (hR : Rel M) {i L : Int} (l5 l6 : zV) (i0 : 0 ≤ i) (iL : i + 6 ≤ L) (L1 : L ≤ 3072) (hk : zand (M (-2) i) 63 = 3) : ∃ M2, zEv true 120 372 23 (lawL L i l5 l6) [] M = zEv true 120 372 23 (lawL L (i + 6) l5 l6) [] M2 ∧ Rel M2 ∧ zPot M M2 := by
  obtain ⟨v, M1, M2, h1, h2, h3, h4⟩ := st_fault  hR
  have h1 : zEm true 120 4 [(29, 0, 0)] M = some ((0, v, 0), M1) := h1
  have h2 : zEm true 120 204 [(30, 197, 0)] M1 = some ((0, v, 0), M2) := h2
  have hrow := (zEm_k 120 _ _ _ _ _ h1 (zposl_c.mpr ⟨zposv_ge (by omega), zposl_nil⟩) (posR hR)).2.2
  refine ⟨M2, ?_, h3, h4⟩
  unfold lawL
  rw [e372_23]
  simp (disch := first | assumption | exact zrm0 | exact zrm1 _ | exact zrm2 _ _ | exact zrm3 _ _ _ | exact zrm4 _ _ _ _ | omega) only [↓k_dp, ↓k_dn, k_dp, k_dn, k_dT, k_dF, k_ip, k_in, if_true, if_false, ne_eq, not_true_eq_false, not_false_eq_true, Int.reduceAdd, zup_a, zup_e, zup_j, z32_id, k_il4, k_al0, k_len, k_ic, k_isub, k_icgt, k_ild, k_ildS, k_ildW, k_iand, k_al1, k_v1r, k_al2, k_iceq, k_rz, k_inc4, k_goto, zb0_some, zb1_some, e372_25, e372_26, e372_27, e372_29, e372_30, e372_33, e372_34, e372_36, e372_37, e372_39, e372_347, e372_348, e372_351, e372_352, e372_355, e372_358, e372_359, e372_1507, e372_1510, h1, h2, hk, sw_3]
theorem law_5 {M : zM} (hR : Rel M) {i L : Int} (l5 l6 : zV) (i0 : 0 ≤ i) (iL : i + 6 ≤ L) (L1 : L ≤ 3072) (hk : zand (M (-2) i) 63 = 5) : ∃ M2, zEv true 120 372 23 (lawL L i l5 l6) [] M = zEv true 120 372 23 (lawL L (i + 6) l5 l6) [] M2 ∧ Rel M2 ∧ zPot M M2 := by
  obtain ⟨v, M1, M2, h1, h2, h3, h4⟩ := st_wants (M (-2) (i + 1)) (M (-2) (i + 2)) hR
  have h1 : zEm true 120 6 [(29, 0, 0), (0, M (-2) (i + 1), 0), (0, M (-2) (i + 2), 0)] M = some ((0, v, 0), M1) := h1
  have h2 : zEm true 120 217 [(30, 197, 0), (0, M (-2) (i + 1), 0), (0, M (-2) (i + 2), 0)] M1 = some ((0, v, 0), M2) := h2
  have hrow := (zEm_k 120 _ _ _ _ _ h1 (zposl_c.mpr ⟨zposv_ge (by omega), zposl_c.mpr ⟨pos0, zposl_c.mpr ⟨pos0, zposl_nil⟩⟩⟩) (posR hR)).2.2
  refine ⟨M2, ?_, h3, h4⟩
  unfold lawL
  rw [e372_23]
  simp (disch := first | assumption | exact zrm0 | exact zrm1 _ | exact zrm2 _ _ | exact zrm3 _ _ _ | exact zrm4 _ _ _ _ | omega) only [↓k_dp, ↓k_dn, k_dp, k_dn, k_dT, k_dF, k_ip, k_in, if_true, if_false, ne_eq, not_true_eq_false, not_false_eq_true, Int.reduceAdd, zup_a, zup_e, zup_j, z32_id, k_il4, k_al0, k_len, k_ic, k_isub, k_icgt, k_ild, k_ildS, k_ildW, k_iand, k_al1, k_iadd, k_v3r, k_al2, k_iceq, k_rz, k_inc4, k_goto, zb0_some, zb1_some, e372_25, e372_26, e372_27, e372_29, e372_30, e372_33, e372_34, e372_36, e372_37, e372_39, e372_428, e372_429, e372_430, e372_432, e372_433, e372_434, e372_435, e372_436, e372_438, e372_439, e372_440, e372_441, e372_444, e372_445, e372_446, e372_448, e372_449, e372_450, e372_451, e372_452, e372_454, e372_455, e372_456, e372_457, e372_460, e372_463, e372_464, e372_1507, e372_1510, h1, h2, hk, sw_5, hrow]
theorem law_7 {M : zM} (hR : Rel M) {i L : Int} (l5 l6 : zV) (i0 : 0 ≤ i) (iL : i + 6 ≤ L) (L1 : L ≤ 3072) (hk : zand (M (-2) i) 63 = 7) : ∃ M2, zEv true 120 372 23 (lawL L i l5 l6) [] M = zEv true 120 372 23 (lawL L (i + 6) l5 l6) [] M2 ∧ Rel M2 ∧ zPot M M2 := by
  obtain ⟨v, M1, M2, h1, h2, h3, h4⟩ := st_grants (M (-2) (i + 1)) (M (-2) (i + 2)) hR
  have h1 : zEm true 120 8 [(29, 0, 0), (0, M (-2) (i + 1), 0), (0, M (-2) (i + 2), 0)] M = some ((0, v, 0), M1) := h1
  have h2 : zEm true 120 219 [(30, 197, 0), (0, M (-2) (i + 1), 0), (0, M (-2) (i + 2), 0)] M1 = some ((0, v, 0), M2) := h2
  have hrow := (zEm_k 120 _ _ _ _ _ h1 (zposl_c.mpr ⟨zposv_ge (by omega), zposl_c.mpr ⟨pos0, zposl_c.mpr ⟨pos0, zposl_nil⟩⟩⟩) (posR hR)).2.2
  refine ⟨M2, ?_, h3, h4⟩
  unfold lawL
  rw [e372_23]
  simp (disch := first | assumption | exact zrm0 | exact zrm1 _ | exact zrm2 _ _ | exact zrm3 _ _ _ | exact zrm4 _ _ _ _ | omega) only [↓k_dp, ↓k_dn, k_dp, k_dn, k_dT, k_dF, k_ip, k_in, if_true, if_false, ne_eq, not_true_eq_false, not_false_eq_true, Int.reduceAdd, zup_a, zup_e, zup_j, z32_id, k_il4, k_al0, k_len, k_ic, k_isub, k_icgt, k_ild, k_ildS, k_ildW, k_iand, k_al1, k_iadd, k_v3r, k_al2, k_iceq, k_rz, k_inc4, k_goto, zb0_some, zb1_some, e372_25, e372_26, e372_27, e372_29, e372_30, e372_33, e372_34, e372_36, e372_37, e372_39, e372_533, e372_534, e372_535, e372_537, e372_538, e372_539, e372_540, e372_541, e372_543, e372_544, e372_545, e372_546, e372_549, e372_550, e372_551, e372_553, e372_554, e372_555, e372_556, e372_557, e372_559, e372_560, e372_561, e372_562, e372_565, e372_568, e372_569, e372_1507, e372_1510, h1, h2, hk, sw_7, hrow]
theorem law_8 {M : zM} (hR : Rel M) {i L : Int} (l5 l6 : zV) (i0 : 0 ≤ i) (iL : i + 6 ≤ L) (L1 : L ≤ 3072) (hk : zand (M (-2) i) 63 = 8) : ∃ M2, zEv true 120 372 23 (lawL L i l5 l6) [] M = zEv true 120 372 23 (lawL L (i + 6) l5 l6) [] M2 ∧ Rel M2 ∧ zPot M M2 := by
  obtain ⟨v, M1, M2, h1, h2, h3, h4⟩ := st_way (M (-2) (i + 1)) (M (-2) (i + 2)) hR
  have h1 : zEm true 120 9 [(29, 0, 0), (0, M (-2) (i + 1), 0), (0, M (-2) (i + 2), 0)] M = some ((0, v, 0), M1) := h1
  have h2 : zEm true 120 220 [(30, 197, 0), (0, M (-2) (i + 1), 0), (0, M (-2) (i + 2), 0)] M1 = some ((0, v, 0), M2) := h2
  have hrow := (zEm_k 120 _ _ _ _ _ h1 (zposl_c.mpr ⟨zposv_ge (by omega), zposl_c.mpr ⟨pos0, zposl_c.mpr ⟨pos0, zposl_nil⟩⟩⟩) (posR hR)).2.2
  refine ⟨M2, ?_, h3, h4⟩
  unfold lawL
  rw [e372_23]
  simp (disch := first | assumption | exact zrm0 | exact zrm1 _ | exact zrm2 _ _ | exact zrm3 _ _ _ | exact zrm4 _ _ _ _ | omega) only [↓k_dp, ↓k_dn, k_dp, k_dn, k_dT, k_dF, k_ip, k_in, if_true, if_false, ne_eq, not_true_eq_false, not_false_eq_true, Int.reduceAdd, zup_a, zup_e, zup_j, z32_id, k_il4, k_al0, k_len, k_ic, k_isub, k_icgt, k_ild, k_ildS, k_ildW, k_iand, k_al1, k_iadd, k_v3r, k_al2, k_iceq, k_rz, k_inc4, k_goto, zb0_some, zb1_some, e372_25, e372_26, e372_27, e372_29, e372_30, e372_33, e372_34, e372_36, e372_37, e372_39, e372_570, e372_571, e372_572, e372_574, e372_575, e372_576, e372_577, e372_578, e372_580, e372_581, e372_582, e372_583, e372_586, e372_587, e372_588, e372_590, e372_591, e372_592, e372_593, e372_594, e372_596, e372_597, e372_598, e372_599, e372_602, e372_605, e372_606, e372_1507, e372_1510, h1, h2, hk, sw_8, hrow]
theorem law_9 {M : zM} (hR : Rel M) {i L : Int} (l5 l6 : zV) (i0 : 0 ≤ i) (iL : i + 6 ≤ L) (L1 : L ≤ 3072) (hk : zand (M (-2) i) 63 = 9) : ∃ M2, zEv true 120 372 23 (lawL L i l5 l6) [] M = zEv true 120 372 23 (lawL L (i + 6) l5 l6) [] M2 ∧ Rel M2 ∧ zPot M M2 := by
  obtain ⟨v, M1, M2, h1, h2, h3, h4⟩ := st_now (M (-2) (i + 1)) hR
  have h1 : zEm true 120 10 [(29, 0, 0), (0, M (-2) (i + 1), 0)] M = some ((0, v, 0), M1) := h1
  have h2 : zEm true 120 222 [(30, 197, 0), (0, M (-2) (i + 1), 0)] M1 = some ((0, v, 0), M2) := h2
  have hrow := (zEm_k 120 _ _ _ _ _ h1 (zposl_c.mpr ⟨zposv_ge (by omega), zposl_c.mpr ⟨pos0, zposl_nil⟩⟩) (posR hR)).2.2
  refine ⟨M2, ?_, h3, h4⟩
  unfold lawL
  rw [e372_23]
  simp (disch := first | assumption | exact zrm0 | exact zrm1 _ | exact zrm2 _ _ | exact zrm3 _ _ _ | exact zrm4 _ _ _ _ | omega) only [↓k_dp, ↓k_dn, k_dp, k_dn, k_dT, k_dF, k_ip, k_in, if_true, if_false, ne_eq, not_true_eq_false, not_false_eq_true, Int.reduceAdd, zup_a, zup_e, zup_j, z32_id, k_il4, k_al0, k_len, k_ic, k_isub, k_icgt, k_ild, k_ildS, k_ildW, k_iand, k_al1, k_iadd, k_v2r, k_al2, k_iceq, k_rz, k_inc4, k_goto, zb0_some, zb1_some, e372_25, e372_26, e372_27, e372_29, e372_30, e372_33, e372_34, e372_36, e372_37, e372_39, e372_607, e372_608, e372_609, e372_611, e372_612, e372_613, e372_614, e372_617, e372_618, e372_619, e372_621, e372_622, e372_623, e372_624, e372_627, e372_630, e372_631, e372_1507, e372_1510, h1, h2, hk, sw_9, hrow]
theorem law_10 {M : zM} (hR : Rel M) {i L : Int} (l5 l6 : zV) (i0 : 0 ≤ i) (iL : i + 6 ≤ L) (L1 : L ≤ 3072) (hk : zand (M (-2) i) 63 = 10) : ∃ M2, zEv true 120 372 23 (lawL L i l5 l6) [] M = zEv true 120 372 23 (lawL L (i + 6) l5 l6) [] M2 ∧ Rel M2 ∧ zPot M M2 := by
  obtain ⟨v, M1, M2, h1, h2, h3, h4⟩ := st_buy (M (-2) (i + 1)) (M (-2) (i + 2)) hR
  have h1 : zEm true 120 11 [(29, 0, 0), (0, M (-2) (i + 1), 0), (0, M (-2) (i + 2), 0)] M = some ((0, v, 0), M1) := h1
  have h2 : zEm true 120 232 [(30, 197, 0), (0, M (-2) (i + 1), 0), (0, M (-2) (i + 2), 0)] M1 = some ((0, v, 0), M2) := h2
  have hrow := (zEm_k 120 _ _ _ _ _ h1 (zposl_c.mpr ⟨zposv_ge (by omega), zposl_c.mpr ⟨pos0, zposl_c.mpr ⟨pos0, zposl_nil⟩⟩⟩) (posR hR)).2.2
  refine ⟨M2, ?_, h3, h4⟩
  unfold lawL
  rw [e372_23]
  simp (disch := first | assumption | exact zrm0 | exact zrm1 _ | exact zrm2 _ _ | exact zrm3 _ _ _ | exact zrm4 _ _ _ _ | omega) only [↓k_dp, ↓k_dn, k_dp, k_dn, k_dT, k_dF, k_ip, k_in, if_true, if_false, ne_eq, not_true_eq_false, not_false_eq_true, Int.reduceAdd, zup_a, zup_e, zup_j, z32_id, k_il4, k_al0, k_len, k_ic, k_isub, k_icgt, k_ild, k_ildS, k_ildW, k_iand, k_al1, k_iadd, k_v3r, k_al2, k_iceq, k_rz, k_inc4, k_goto, zb0_some, zb1_some, e372_25, e372_26, e372_27, e372_29, e372_30, e372_33, e372_34, e372_36, e372_37, e372_39, e372_632, e372_633, e372_634, e372_636, e372_637, e372_638, e372_639, e372_640, e372_642, e372_643, e372_644, e372_645, e372_648, e372_649, e372_650, e372_652, e372_653, e372_654, e372_655, e372_656, e372_658, e372_659, e372_660, e372_661, e372_664, e372_667, e372_668, e372_1507, e372_1510, h1, h2, hk, sw_10, hrow]
theorem law_11 {M : zM} (hR : Rel M) {i L : Int} (l5 l6 : zV) (i0 : 0 ≤ i) (iL : i + 6 ≤ L) (L1 : L ≤ 3072) (hk : zand (M (-2) i) 63 = 11) : ∃ M2, zEv true 120 372 23 (lawL L i l5 l6) [] M = zEv true 120 372 23 (lawL L (i + 6) l5 l6) [] M2 ∧ Rel M2 ∧ zPot M M2 := by
  obtain ⟨v, M1, M2, h1, h2, h3, h4⟩ := st_strike (M (-2) (i + 1)) hR
  have h1 : zEm true 120 12 [(29, 0, 0), (0, M (-2) (i + 1), 0)] M = some ((0, v, 0), M1) := h1
  have h2 : zEm true 120 233 [(30, 197, 0), (0, M (-2) (i + 1), 0)] M1 = some ((0, v, 0), M2) := h2
  have hrow := (zEm_k 120 _ _ _ _ _ h1 (zposl_c.mpr ⟨zposv_ge (by omega), zposl_c.mpr ⟨pos0, zposl_nil⟩⟩) (posR hR)).2.2
  refine ⟨M2, ?_, h3, h4⟩
  unfold lawL
  rw [e372_23]
  simp (disch := first | assumption | exact zrm0 | exact zrm1 _ | exact zrm2 _ _ | exact zrm3 _ _ _ | exact zrm4 _ _ _ _ | omega) only [↓k_dp, ↓k_dn, k_dp, k_dn, k_dT, k_dF, k_ip, k_in, if_true, if_false, ne_eq, not_true_eq_false, not_false_eq_true, Int.reduceAdd, zup_a, zup_e, zup_j, z32_id, k_il4, k_al0, k_len, k_ic, k_isub, k_icgt, k_ild, k_ildS, k_ildW, k_iand, k_al1, k_iadd, k_v2r, k_al2, k_iceq, k_rz, k_inc4, k_goto, zb0_some, zb1_some, e372_25, e372_26, e372_27, e372_29, e372_30, e372_33, e372_34, e372_36, e372_37, e372_39, e372_669, e372_670, e372_671, e372_673, e372_674, e372_675, e372_676, e372_679, e372_680, e372_681, e372_683, e372_684, e372_685, e372_686, e372_689, e372_692, e372_693, e372_1507, e372_1510, h1, h2, hk, sw_11, hrow]
theorem law_12 {M : zM} (hR : Rel M) {i L : Int} (l5 l6 : zV) (i0 : 0 ≤ i) (iL : i + 6 ≤ L) (L1 : L ≤ 3072) (hk : zand (M (-2) i) 63 = 12) : ∃ M2, zEv true 120 372 23 (lawL L i l5 l6) [] M = zEv true 120 372 23 (lawL L (i + 6) l5 l6) [] M2 ∧ Rel M2 ∧ zPot M M2 := by
  obtain ⟨v, M1, M2, h1, h2, h3, h4⟩ := st_work (M (-2) (i + 1)) hR
  have h1 : zEm true 120 13 [(29, 0, 0), (0, M (-2) (i + 1), 0)] M = some ((0, v, 0), M1) := h1
  have h2 : zEm true 120 234 [(30, 197, 0), (0, M (-2) (i + 1), 0)] M1 = some ((0, v, 0), M2) := h2
  have hrow := (zEm_k 120 _ _ _ _ _ h1 (zposl_c.mpr ⟨zposv_ge (by omega), zposl_c.mpr ⟨pos0, zposl_nil⟩⟩) (posR hR)).2.2
  refine ⟨M2, ?_, h3, h4⟩
  unfold lawL
  rw [e372_23]
  simp (disch := first | assumption | exact zrm0 | exact zrm1 _ | exact zrm2 _ _ | exact zrm3 _ _ _ | exact zrm4 _ _ _ _ | omega) only [↓k_dp, ↓k_dn, k_dp, k_dn, k_dT, k_dF, k_ip, k_in, if_true, if_false, ne_eq, not_true_eq_false, not_false_eq_true, Int.reduceAdd, zup_a, zup_e, zup_j, z32_id, k_il4, k_al0, k_len, k_ic, k_isub, k_icgt, k_ild, k_ildS, k_ildW, k_iand, k_al1, k_iadd, k_v2r, k_al2, k_iceq, k_rz, k_inc4, k_goto, zb0_some, zb1_some, e372_25, e372_26, e372_27, e372_29, e372_30, e372_33, e372_34, e372_36, e372_37, e372_39, e372_694, e372_695, e372_696, e372_698, e372_699, e372_700, e372_701, e372_704, e372_705, e372_706, e372_708, e372_709, e372_710, e372_711, e372_714, e372_717, e372_718, e372_1507, e372_1510, h1, h2, hk, sw_12, hrow]
theorem law_13 {M : zM} (hR : Rel M) {i L : Int} (l5 l6 : zV) (i0 : 0 ≤ i) (iL : i + 6 ≤ L) (L1 : L ≤ 3072) (hk : zand (M (-2) i) 63 = 13) : ∃ M2, zEv true 120 372 23 (lawL L i l5 l6) [] M = zEv true 120 372 23 (lawL L (i + 6) l5 l6) [] M2 ∧ Rel M2 ∧ zPot M M2 := by
  obtain ⟨v, M1, M2, h1, h2, h3, h4⟩ := st_sway (M (-2) (i + 1)) (M (-2) (i + 2)) (M (-2) (i + 3)) hR
  have h1 : zEm true 120 14 [(29, 0, 0), (0, M (-2) (i + 1), 0), (0, M (-2) (i + 2), 0), (0, M (-2) (i + 3), 0)] M = some ((0, v, 0), M1) := h1
  have h2 : zEm true 120 235 [(30, 197, 0), (0, M (-2) (i + 1), 0), (0, M (-2) (i + 2), 0), (0, M (-2) (i + 3), 0)] M1 = some ((0, v, 0), M2) := h2
  have hrow := (zEm_k 120 _ _ _ _ _ h1 (zposl_c.mpr ⟨zposv_ge (by omega), zposl_c.mpr ⟨pos0, zposl_c.mpr ⟨pos0, zposl_c.mpr ⟨pos0, zposl_nil⟩⟩⟩⟩) (posR hR)).2.2
  refine ⟨M2, ?_, h3, h4⟩
  unfold lawL
  rw [e372_23]
  simp (disch := first | assumption | exact zrm0 | exact zrm1 _ | exact zrm2 _ _ | exact zrm3 _ _ _ | exact zrm4 _ _ _ _ | omega) only [↓k_dp, ↓k_dn, k_dp, k_dn, k_dT, k_dF, k_ip, k_in, if_true, if_false, ne_eq, not_true_eq_false, not_false_eq_true, Int.reduceAdd, zup_a, zup_e, zup_j, z32_id, k_il4, k_al0, k_len, k_ic, k_isub, k_icgt, k_ild, k_ildS, k_ildW, k_iand, k_al1, k_iadd, k_v4r, k_al2, k_iceq, k_rz, k_inc4, k_goto, zb0_some, zb1_some, e372_25, e372_26, e372_27, e372_29, e372_30, e372_33, e372_34, e372_36, e372_37, e372_39, e372_719, e372_720, e372_721, e372_723, e372_724, e372_725, e372_726, e372_727, e372_729, e372_730, e372_731, e372_732, e372_733, e372_735, e372_736, e372_737, e372_738, e372_741, e372_742, e372_743, e372_745, e372_746, e372_747, e372_748, e372_749, e372_751, e372_752, e372_753, e372_754, e372_755, e372_757, e372_758, e372_759, e372_760, e372_763, e372_766, e372_767, e372_1507, e372_1510, h1, h2, hk, sw_13, hrow]
theorem law_14 {M : zM} (hR : Rel M) {i L : Int} (l5 l6 : zV) (i0 : 0 ≤ i) (iL : i + 6 ≤ L) (L1 : L ≤ 3072) (hk : zand (M (-2) i) 63 = 14) : ∃ M2, zEv true 120 372 23 (lawL L i l5 l6) [] M = zEv true 120 372 23 (lawL L (i + 6) l5 l6) [] M2 ∧ Rel M2 ∧ zPot M M2 := by
  obtain ⟨v, M1, M2, h1, h2, h3, h4⟩ := st_put (M (-2) (i + 1)) hR
  have h1 : zEm true 120 15 [(29, 0, 0), (0, M (-2) (i + 1), 0)] M = some ((0, v, 0), M1) := h1
  have h2 : zEm true 120 236 [(30, 197, 0), (0, M (-2) (i + 1), 0)] M1 = some ((0, v, 0), M2) := h2
  have hrow := (zEm_k 120 _ _ _ _ _ h1 (zposl_c.mpr ⟨zposv_ge (by omega), zposl_c.mpr ⟨pos0, zposl_nil⟩⟩) (posR hR)).2.2
  refine ⟨M2, ?_, h3, h4⟩
  unfold lawL
  rw [e372_23]
  simp (disch := first | assumption | exact zrm0 | exact zrm1 _ | exact zrm2 _ _ | exact zrm3 _ _ _ | exact zrm4 _ _ _ _ | omega) only [↓k_dp, ↓k_dn, k_dp, k_dn, k_dT, k_dF, k_ip, k_in, if_true, if_false, ne_eq, not_true_eq_false, not_false_eq_true, Int.reduceAdd, zup_a, zup_e, zup_j, z32_id, k_il4, k_al0, k_len, k_ic, k_isub, k_icgt, k_ild, k_ildS, k_ildW, k_iand, k_al1, k_iadd, k_v2r, k_al2, k_iceq, k_rz, k_inc4, k_goto, zb0_some, zb1_some, e372_25, e372_26, e372_27, e372_29, e372_30, e372_33, e372_34, e372_36, e372_37, e372_39, e372_768, e372_769, e372_770, e372_772, e372_773, e372_774, e372_775, e372_778, e372_779, e372_780, e372_782, e372_783, e372_784, e372_785, e372_788, e372_791, e372_792, e372_1507, e372_1510, h1, h2, hk, sw_14, hrow]
theorem law_15 {M : zM} (hR : Rel M) {i L : Int} (l5 l6 : zV) (i0 : 0 ≤ i) (iL : i + 6 ≤ L) (L1 : L ≤ 3072) (hk : zand (M (-2) i) 63 = 15) : ∃ M2, zEv true 120 372 23 (lawL L i l5 l6) [] M = zEv true 120 372 23 (lawL L (i + 6) l5 l6) [] M2 ∧ Rel M2 ∧ zPot M M2 := by
  obtain ⟨v, M1, M2, h1, h2, h3, h4⟩ := st_lay (M (-2) (i + 1)) (M (-2) (i + 2)) hR
  have h1 : zEm true 120 16 [(29, 0, 0), (0, M (-2) (i + 1), 0), (0, M (-2) (i + 2), 0)] M = some ((0, v, 0), M1) := h1
  have h2 : zEm true 120 237 [(30, 197, 0), (0, M (-2) (i + 1), 0), (0, M (-2) (i + 2), 0)] M1 = some ((0, v, 0), M2) := h2
  have hrow := (zEm_k 120 _ _ _ _ _ h1 (zposl_c.mpr ⟨zposv_ge (by omega), zposl_c.mpr ⟨pos0, zposl_c.mpr ⟨pos0, zposl_nil⟩⟩⟩) (posR hR)).2.2
  refine ⟨M2, ?_, h3, h4⟩
  unfold lawL
  rw [e372_23]
  simp (disch := first | assumption | exact zrm0 | exact zrm1 _ | exact zrm2 _ _ | exact zrm3 _ _ _ | exact zrm4 _ _ _ _ | omega) only [↓k_dp, ↓k_dn, k_dp, k_dn, k_dT, k_dF, k_ip, k_in, if_true, if_false, ne_eq, not_true_eq_false, not_false_eq_true, Int.reduceAdd, zup_a, zup_e, zup_j, z32_id, k_il4, k_al0, k_len, k_ic, k_isub, k_icgt, k_ild, k_ildS, k_ildW, k_iand, k_al1, k_iadd, k_v3r, k_al2, k_iceq, k_rz, k_inc4, k_goto, zb0_some, zb1_some, e372_25, e372_26, e372_27, e372_29, e372_30, e372_33, e372_34, e372_36, e372_37, e372_39, e372_793, e372_794, e372_795, e372_797, e372_798, e372_799, e372_800, e372_801, e372_803, e372_804, e372_805, e372_806, e372_809, e372_810, e372_811, e372_813, e372_814, e372_815, e372_816, e372_817, e372_819, e372_820, e372_821, e372_822, e372_825, e372_828, e372_829, e372_1507, e372_1510, h1, h2, hk, sw_15, hrow]
theorem law_16 {M : zM} (hR : Rel M) {i L : Int} (l5 l6 : zV) (i0 : 0 ≤ i) (iL : i + 6 ≤ L) (L1 : L ≤ 3072) (hk : zand (M (-2) i) 63 = 16) : ∃ M2, zEv true 120 372 23 (lawL L i l5 l6) [] M = zEv true 120 372 23 (lawL L (i + 6) l5 l6) [] M2 ∧ Rel M2 ∧ zPot M M2 := by
  obtain ⟨v, M1, M2, h1, h2, h3, h4⟩ := st_weather (M (-2) (i + 1)) hR
  have h1 : zEm true 120 17 [(29, 0, 0), (0, M (-2) (i + 1), 0)] M = some ((0, v, 0), M1) := h1
  have h2 : zEm true 120 238 [(30, 197, 0), (0, M (-2) (i + 1), 0)] M1 = some ((0, v, 0), M2) := h2
  have hrow := (zEm_k 120 _ _ _ _ _ h1 (zposl_c.mpr ⟨zposv_ge (by omega), zposl_c.mpr ⟨pos0, zposl_nil⟩⟩) (posR hR)).2.2
  refine ⟨M2, ?_, h3, h4⟩
  unfold lawL
  rw [e372_23]
  simp (disch := first | assumption | exact zrm0 | exact zrm1 _ | exact zrm2 _ _ | exact zrm3 _ _ _ | exact zrm4 _ _ _ _ | omega) only [↓k_dp, ↓k_dn, k_dp, k_dn, k_dT, k_dF, k_ip, k_in, if_true, if_false, ne_eq, not_true_eq_false, not_false_eq_true, Int.reduceAdd, zup_a, zup_e, zup_j, z32_id, k_il4, k_al0, k_len, k_ic, k_isub, k_icgt, k_ild, k_ildS, k_ildW, k_iand, k_al1, k_iadd, k_v2r, k_al2, k_iceq, k_rz, k_inc4, k_goto, zb0_some, zb1_some, e372_25, e372_26, e372_27, e372_29, e372_30, e372_33, e372_34, e372_36, e372_37, e372_39, e372_830, e372_831, e372_832, e372_834, e372_835, e372_836, e372_837, e372_840, e372_841, e372_842, e372_844, e372_845, e372_846, e372_847, e372_850, e372_853, e372_854, e372_1507, e372_1510, h1, h2, hk, sw_16, hrow]
theorem law_17 {M : zM} (hR : Rel M) {i L : Int} (l5 l6 : zV) (i0 : 0 ≤ i) (iL : i + 6 ≤ L) (L1 : L ≤ 3072) (hk : zand (M (-2) i) 63 = 17) : ∃ M2, zEv true 120 372 23 (lawL L i l5 l6) [] M = zEv true 120 372 23 (lawL L (i + 6) l5 l6) [] M2 ∧ Rel M2 ∧ zPot M M2 := by
  obtain ⟨v, M1, M2, h1, h2, h3, h4⟩ := st_days (M (-2) (i + 1)) hR
  have h1 : zEm true 120 18 [(29, 0, 0), (0, M (-2) (i + 1), 0)] M = some ((0, v, 0), M1) := h1
  have h2 : zEm true 120 242 [(30, 197, 0), (0, M (-2) (i + 1), 0)] M1 = some ((0, v, 0), M2) := h2
  have hrow := (zEm_k 120 _ _ _ _ _ h1 (zposl_c.mpr ⟨zposv_ge (by omega), zposl_c.mpr ⟨pos0, zposl_nil⟩⟩) (posR hR)).2.2
  refine ⟨M2, ?_, h3, h4⟩
  unfold lawL
  rw [e372_23]
  simp (disch := first | assumption | exact zrm0 | exact zrm1 _ | exact zrm2 _ _ | exact zrm3 _ _ _ | exact zrm4 _ _ _ _ | omega) only [↓k_dp, ↓k_dn, k_dp, k_dn, k_dT, k_dF, k_ip, k_in, if_true, if_false, ne_eq, not_true_eq_false, not_false_eq_true, Int.reduceAdd, zup_a, zup_e, zup_j, z32_id, k_il4, k_al0, k_len, k_ic, k_isub, k_icgt, k_ild, k_ildS, k_ildW, k_iand, k_al1, k_iadd, k_v2r, k_al2, k_iceq, k_rz, k_inc4, k_goto, zb0_some, zb1_some, e372_25, e372_26, e372_27, e372_29, e372_30, e372_33, e372_34, e372_36, e372_37, e372_39, e372_855, e372_856, e372_857, e372_859, e372_860, e372_861, e372_862, e372_865, e372_866, e372_867, e372_869, e372_870, e372_871, e372_872, e372_875, e372_878, e372_879, e372_1507, e372_1510, h1, h2, hk, sw_17, hrow]
theorem law_18 {M : zM} (hR : Rel M) {i L : Int} (l5 l6 : zV) (i0 : 0 ≤ i) (iL : i + 6 ≤ L) (L1 : L ≤ 3072) (hk : zand (M (-2) i) 63 = 18) : ∃ M2, zEv true 120 372 23 (lawL L i l5 l6) [] M = zEv true 120 372 23 (lawL L (i + 6) l5 l6) [] M2 ∧ Rel M2 ∧ zPot M M2 := by
  obtain ⟨v, M1, M2, h1, h2, h3, h4⟩ := st_undo  hR
  have h1 : zEm true 120 19 [(29, 0, 0)] M = some ((0, v, 0), M1) := h1
  have h2 : zEm true 120 239 [(30, 197, 0)] M1 = some ((0, v, 0), M2) := h2
  have hrow := (zEm_k 120 _ _ _ _ _ h1 (zposl_c.mpr ⟨zposv_ge (by omega), zposl_nil⟩) (posR hR)).2.2
  refine ⟨M2, ?_, h3, h4⟩
  unfold lawL
  rw [e372_23]
  simp (disch := first | assumption | exact zrm0 | exact zrm1 _ | exact zrm2 _ _ | exact zrm3 _ _ _ | exact zrm4 _ _ _ _ | omega) only [↓k_dp, ↓k_dn, k_dp, k_dn, k_dT, k_dF, k_ip, k_in, if_true, if_false, ne_eq, not_true_eq_false, not_false_eq_true, Int.reduceAdd, zup_a, zup_e, zup_j, z32_id, k_il4, k_al0, k_len, k_ic, k_isub, k_icgt, k_ild, k_ildS, k_ildW, k_iand, k_al1, k_v1r, k_al2, k_iceq, k_rz, k_inc4, k_goto, zb0_some, zb1_some, e372_25, e372_26, e372_27, e372_29, e372_30, e372_33, e372_34, e372_36, e372_37, e372_39, e372_880, e372_881, e372_884, e372_885, e372_888, e372_891, e372_892, e372_1507, e372_1510, h1, h2, hk, sw_18]
theorem law_19 {M : zM} (hR : Rel M) {i L : Int} (l5 l6 : zV) (i0 : 0 ≤ i) (iL : i + 6 ≤ L) (L1 : L ≤ 3072) (hk : zand (M (-2) i) 63 = 19) : ∃ M2, zEv true 120 372 23 (lawL L i l5 l6) [] M = zEv true 120 372 23 (lawL L (i + 6) l5 l6) [] M2 ∧ Rel M2 ∧ zPot M M2 := by
  obtain ⟨v, M1, M2, h1, h2, h3, h4⟩ := st_noise (M (-2) (i + 1)) (M (-2) (i + 2)) hR
  have h1 : zEm true 120 20 [(29, 0, 0), (0, M (-2) (i + 1), 0), (0, M (-2) (i + 2), 0)] M = some ((0, v, 0), M1) := h1
  have h2 : zEm true 120 243 [(30, 197, 0), (0, M (-2) (i + 1), 0), (0, M (-2) (i + 2), 0)] M1 = some ((0, v, 0), M2) := h2
  have hrow := (zEm_k 120 _ _ _ _ _ h1 (zposl_c.mpr ⟨zposv_ge (by omega), zposl_c.mpr ⟨pos0, zposl_c.mpr ⟨pos0, zposl_nil⟩⟩⟩) (posR hR)).2.2
  refine ⟨M2, ?_, h3, h4⟩
  unfold lawL
  rw [e372_23]
  simp (disch := first | assumption | exact zrm0 | exact zrm1 _ | exact zrm2 _ _ | exact zrm3 _ _ _ | exact zrm4 _ _ _ _ | omega) only [↓k_dp, ↓k_dn, k_dp, k_dn, k_dT, k_dF, k_ip, k_in, if_true, if_false, ne_eq, not_true_eq_false, not_false_eq_true, Int.reduceAdd, zup_a, zup_e, zup_j, z32_id, k_il4, k_al0, k_len, k_ic, k_isub, k_icgt, k_ild, k_ildS, k_ildW, k_iand, k_al1, k_iadd, k_v3r, k_al2, k_iceq, k_rz, k_inc4, k_goto, zb0_some, zb1_some, e372_25, e372_26, e372_27, e372_29, e372_30, e372_33, e372_34, e372_36, e372_37, e372_39, e372_893, e372_894, e372_895, e372_897, e372_898, e372_899, e372_900, e372_901, e372_903, e372_904, e372_905, e372_906, e372_909, e372_910, e372_911, e372_913, e372_914, e372_915, e372_916, e372_917, e372_919, e372_920, e372_921, e372_922, e372_925, e372_928, e372_929, e372_1507, e372_1510, h1, h2, hk, sw_19, hrow]
theorem law_20 {M : zM} (hR : Rel M) {i L : Int} (l5 l6 : zV) (i0 : 0 ≤ i) (iL : i + 6 ≤ L) (L1 : L ≤ 3072) (hk : zand (M (-2) i) 63 = 20) : ∃ M2, zEv true 120 372 23 (lawL L i l5 l6) [] M = zEv true 120 372 23 (lawL L (i + 6) l5 l6) [] M2 ∧ Rel M2 ∧ zPot M M2 := by
  obtain ⟨v, M1, M2, h1, h2, h3, h4⟩ := st_would (M (-2) (i + 1)) hR
  have h1 : zEm true 120 21 [(29, 0, 0), (0, M (-2) (i + 1), 0)] M = some ((0, v, 0), M1) := h1
  have h2 : zEm true 120 244 [(30, 197, 0), (0, M (-2) (i + 1), 0)] M1 = some ((0, v, 0), M2) := h2
  have hrow := (zEm_k 120 _ _ _ _ _ h1 (zposl_c.mpr ⟨zposv_ge (by omega), zposl_c.mpr ⟨pos0, zposl_nil⟩⟩) (posR hR)).2.2
  refine ⟨M2, ?_, h3, h4⟩
  unfold lawL
  rw [e372_23]
  simp (disch := first | assumption | exact zrm0 | exact zrm1 _ | exact zrm2 _ _ | exact zrm3 _ _ _ | exact zrm4 _ _ _ _ | omega) only [↓k_dp, ↓k_dn, k_dp, k_dn, k_dT, k_dF, k_ip, k_in, if_true, if_false, ne_eq, not_true_eq_false, not_false_eq_true, Int.reduceAdd, zup_a, zup_e, zup_j, z32_id, k_il4, k_al0, k_len, k_ic, k_isub, k_icgt, k_ild, k_ildS, k_ildW, k_iand, k_al1, k_iadd, k_v2r, k_al2, k_iceq, k_rz, k_inc4, k_goto, zb0_some, zb1_some, e372_25, e372_26, e372_27, e372_29, e372_30, e372_33, e372_34, e372_36, e372_37, e372_39, e372_930, e372_931, e372_932, e372_934, e372_935, e372_936, e372_937, e372_940, e372_941, e372_942, e372_944, e372_945, e372_946, e372_947, e372_950, e372_953, e372_954, e372_1507, e372_1510, h1, h2, hk, sw_20, hrow]
theorem law_21 {M : zM} (hR : Rel M) {i L : Int} (l5 l6 : zV) (i0 : 0 ≤ i) (iL : i + 6 ≤ L) (L1 : L ≤ 3072) (hk : zand (M (-2) i) 63 = 21) : ∃ M2, zEv true 120 372 23 (lawL L i l5 l6) [] M = zEv true 120 372 23 (lawL L (i + 6) l5 l6) [] M2 ∧ Rel M2 ∧ zPot M M2 := by
  obtain ⟨v, M1, M2, h1, h2, h3, h4⟩ := st_win (M (-2) (i + 1)) hR
  have h1 : zEm true 120 22 [(29, 0, 0), (0, M (-2) (i + 1), 0)] M = some ((0, v, 0), M1) := h1
  have h2 : zEm true 120 245 [(30, 197, 0), (0, M (-2) (i + 1), 0)] M1 = some ((0, v, 0), M2) := h2
  have hrow := (zEm_k 120 _ _ _ _ _ h1 (zposl_c.mpr ⟨zposv_ge (by omega), zposl_c.mpr ⟨pos0, zposl_nil⟩⟩) (posR hR)).2.2
  refine ⟨M2, ?_, h3, h4⟩
  unfold lawL
  rw [e372_23]
  simp (disch := first | assumption | exact zrm0 | exact zrm1 _ | exact zrm2 _ _ | exact zrm3 _ _ _ | exact zrm4 _ _ _ _ | omega) only [↓k_dp, ↓k_dn, k_dp, k_dn, k_dT, k_dF, k_ip, k_in, if_true, if_false, ne_eq, not_true_eq_false, not_false_eq_true, Int.reduceAdd, zup_a, zup_e, zup_j, z32_id, k_il4, k_al0, k_len, k_ic, k_isub, k_icgt, k_ild, k_ildS, k_ildW, k_iand, k_al1, k_iadd, k_v2r, k_al2, k_iceq, k_rz, k_inc4, k_goto, zb0_some, zb1_some, e372_25, e372_26, e372_27, e372_29, e372_30, e372_33, e372_34, e372_36, e372_37, e372_39, e372_955, e372_956, e372_957, e372_959, e372_960, e372_961, e372_962, e372_965, e372_966, e372_967, e372_969, e372_970, e372_971, e372_972, e372_975, e372_978, e372_979, e372_1507, e372_1510, h1, h2, hk, sw_21, hrow]
theorem law_22 {M : zM} (hR : Rel M) {i L : Int} (l5 l6 : zV) (i0 : 0 ≤ i) (iL : i + 6 ≤ L) (L1 : L ≤ 3072) (hk : zand (M (-2) i) 63 = 22) : ∃ M2, zEv true 120 372 23 (lawL L i l5 l6) [] M = zEv true 120 372 23 (lawL L (i + 6) l5 l6) [] M2 ∧ Rel M2 ∧ zPot M M2 := by
  obtain ⟨v, M1, M2, h1, h2, h3, h4⟩ := st_won  hR
  have h1 : zEm true 120 23 [(29, 0, 0)] M = some ((0, v, 0), M1) := h1
  have h2 : zEm true 120 246 [(30, 197, 0)] M1 = some ((0, v, 0), M2) := h2
  have hrow := (zEm_k 120 _ _ _ _ _ h1 (zposl_c.mpr ⟨zposv_ge (by omega), zposl_nil⟩) (posR hR)).2.2
  refine ⟨M2, ?_, h3, h4⟩
  unfold lawL
  rw [e372_23]
  simp (disch := first | assumption | exact zrm0 | exact zrm1 _ | exact zrm2 _ _ | exact zrm3 _ _ _ | exact zrm4 _ _ _ _ | omega) only [↓k_dp, ↓k_dn, k_dp, k_dn, k_dT, k_dF, k_ip, k_in, if_true, if_false, ne_eq, not_true_eq_false, not_false_eq_true, Int.reduceAdd, zup_a, zup_e, zup_j, z32_id, k_il4, k_al0, k_len, k_ic, k_isub, k_icgt, k_ild, k_ildS, k_ildW, k_iand, k_al1, k_v1r, k_al2, k_iceq, k_rz, k_inc4, k_goto, zb0_some, zb1_some, e372_25, e372_26, e372_27, e372_29, e372_30, e372_33, e372_34, e372_36, e372_37, e372_39, e372_980, e372_981, e372_984, e372_985, e372_988, e372_991, e372_992, e372_1507, e372_1510, h1, h2, hk, sw_22]
theorem law_23 {M : zM} (hR : Rel M) {i L : Int} (l5 l6 : zV) (i0 : 0 ≤ i) (iL : i + 6 ≤ L) (L1 : L ≤ 3072) (hk : zand (M (-2) i) 63 = 23) : ∃ M2, zEv true 120 372 23 (lawL L i l5 l6) [] M = zEv true 120 372 23 (lawL L (i + 6) l5 l6) [] M2 ∧ Rel M2 ∧ zPot M M2 := by
  obtain ⟨v, M1, M2, h1, h2, h3, h4⟩ := st_winStreets (M (-2) (i + 1)) hR
  have h1 : zEm true 120 24 [(29, 0, 0), (0, M (-2) (i + 1), 0)] M = some ((0, v, 0), M1) := h1
  have h2 : zEm true 120 248 [(30, 197, 0), (0, M (-2) (i + 1), 0)] M1 = some ((0, v, 0), M2) := h2
  have hrow := (zEm_k 120 _ _ _ _ _ h1 (zposl_c.mpr ⟨zposv_ge (by omega), zposl_c.mpr ⟨pos0, zposl_nil⟩⟩) (posR hR)).2.2
  refine ⟨M2, ?_, h3, h4⟩
  unfold lawL
  rw [e372_23]
  simp (disch := first | assumption | exact zrm0 | exact zrm1 _ | exact zrm2 _ _ | exact zrm3 _ _ _ | exact zrm4 _ _ _ _ | omega) only [↓k_dp, ↓k_dn, k_dp, k_dn, k_dT, k_dF, k_ip, k_in, if_true, if_false, ne_eq, not_true_eq_false, not_false_eq_true, Int.reduceAdd, zup_a, zup_e, zup_j, z32_id, k_il4, k_al0, k_len, k_ic, k_isub, k_icgt, k_ild, k_ildS, k_ildW, k_iand, k_al1, k_iadd, k_v2r, k_al2, k_iceq, k_rz, k_inc4, k_goto, zb0_some, zb1_some, e372_25, e372_26, e372_27, e372_29, e372_30, e372_33, e372_34, e372_36, e372_37, e372_39, e372_993, e372_994, e372_995, e372_997, e372_998, e372_999, e372_1000, e372_1003, e372_1004, e372_1005, e372_1007, e372_1008, e372_1009, e372_1010, e372_1013, e372_1016, e372_1017, e372_1507, e372_1510, h1, h2, hk, sw_23, hrow]
theorem law_24 {M : zM} (hR : Rel M) {i L : Int} (l5 l6 : zV) (i0 : 0 ≤ i) (iL : i + 6 ≤ L) (L1 : L ≤ 3072) (hk : zand (M (-2) i) 63 = 24) : ∃ M2, zEv true 120 372 23 (lawL L i l5 l6) [] M = zEv true 120 372 23 (lawL L (i + 6) l5 l6) [] M2 ∧ Rel M2 ∧ zPot M M2 := by
  obtain ⟨v, M1, M2, h1, h2, h3, h4⟩ := st_wonStreets  hR
  have h1 : zEm true 120 25 [(29, 0, 0)] M = some ((0, v, 0), M1) := h1
  have h2 : zEm true 120 249 [(30, 197, 0)] M1 = some ((0, v, 0), M2) := h2
  have hrow := (zEm_k 120 _ _ _ _ _ h1 (zposl_c.mpr ⟨zposv_ge (by omega), zposl_nil⟩) (posR hR)).2.2
  refine ⟨M2, ?_, h3, h4⟩
  unfold lawL
  rw [e372_23]
  simp (disch := first | assumption | exact zrm0 | exact zrm1 _ | exact zrm2 _ _ | exact zrm3 _ _ _ | exact zrm4 _ _ _ _ | omega) only [↓k_dp, ↓k_dn, k_dp, k_dn, k_dT, k_dF, k_ip, k_in, if_true, if_false, ne_eq, not_true_eq_false, not_false_eq_true, Int.reduceAdd, zup_a, zup_e, zup_j, z32_id, k_il4, k_al0, k_len, k_ic, k_isub, k_icgt, k_ild, k_ildS, k_ildW, k_iand, k_al1, k_v1r, k_al2, k_iceq, k_rz, k_inc4, k_goto, zb0_some, zb1_some, e372_25, e372_26, e372_27, e372_29, e372_30, e372_33, e372_34, e372_36, e372_37, e372_39, e372_1018, e372_1019, e372_1022, e372_1023, e372_1026, e372_1029, e372_1030, e372_1507, e372_1510, h1, h2, hk, sw_24]
theorem law_25 {M : zM} (hR : Rel M) {i L : Int} (l5 l6 : zV) (i0 : 0 ≤ i) (iL : i + 6 ≤ L) (L1 : L ≤ 3072) (hk : zand (M (-2) i) 63 = 25) : ∃ M2, zEv true 120 372 23 (lawL L i l5 l6) [] M = zEv true 120 372 23 (lawL L (i + 6) l5 l6) [] M2 ∧ Rel M2 ∧ zPot M M2 := by
  obtain ⟨v, M1, M2, h1, h2, h3, h4⟩ := st_sanded (M (-2) (i + 1)) hR
  have h1 : zEm true 120 26 [(29, 0, 0), (0, M (-2) (i + 1), 0)] M = some ((0, v, 0), M1) := h1
  have h2 : zEm true 120 250 [(30, 197, 0), (0, M (-2) (i + 1), 0)] M1 = some ((0, v, 0), M2) := h2
  have hrow := (zEm_k 120 _ _ _ _ _ h1 (zposl_c.mpr ⟨zposv_ge (by omega), zposl_c.mpr ⟨pos0, zposl_nil⟩⟩) (posR hR)).2.2
  refine ⟨M2, ?_, h3, h4⟩
  unfold lawL
  rw [e372_23]
  simp (disch := first | assumption | exact zrm0 | exact zrm1 _ | exact zrm2 _ _ | exact zrm3 _ _ _ | exact zrm4 _ _ _ _ | omega) only [↓k_dp, ↓k_dn, k_dp, k_dn, k_dT, k_dF, k_ip, k_in, if_true, if_false, ne_eq, not_true_eq_false, not_false_eq_true, Int.reduceAdd, zup_a, zup_e, zup_j, z32_id, k_il4, k_al0, k_len, k_ic, k_isub, k_icgt, k_ild, k_ildS, k_ildW, k_iand, k_al1, k_iadd, k_v2r, k_al2, k_iceq, k_rz, k_inc4, k_goto, zb0_some, zb1_some, e372_25, e372_26, e372_27, e372_29, e372_30, e372_33, e372_34, e372_36, e372_37, e372_39, e372_1031, e372_1032, e372_1033, e372_1035, e372_1036, e372_1037, e372_1038, e372_1041, e372_1042, e372_1043, e372_1045, e372_1046, e372_1047, e372_1048, e372_1051, e372_1054, e372_1055, e372_1507, e372_1510, h1, h2, hk, sw_25, hrow]
theorem law_26 {M : zM} (hR : Rel M) {i L : Int} (l5 l6 : zV) (i0 : 0 ≤ i) (iL : i + 6 ≤ L) (L1 : L ≤ 3072) (hk : zand (M (-2) i) 63 = 26) : ∃ M2, zEv true 120 372 23 (lawL L i l5 l6) [] M = zEv true 120 372 23 (lawL L (i + 6) l5 l6) [] M2 ∧ Rel M2 ∧ zPot M M2 := by
  obtain ⟨v, M1, M2, h1, h2, h3, h4⟩ := st_bought (M (-2) (i + 1)) hR
  have h1 : zEm true 120 27 [(29, 0, 0), (0, M (-2) (i + 1), 0)] M = some ((0, v, 0), M1) := h1
  have h2 : zEm true 120 254 [(30, 197, 0), (0, M (-2) (i + 1), 0)] M1 = some ((0, v, 0), M2) := h2
  have hrow := (zEm_k 120 _ _ _ _ _ h1 (zposl_c.mpr ⟨zposv_ge (by omega), zposl_c.mpr ⟨pos0, zposl_nil⟩⟩) (posR hR)).2.2
  refine ⟨M2, ?_, h3, h4⟩
  unfold lawL
  rw [e372_23]
  simp (disch := first | assumption | exact zrm0 | exact zrm1 _ | exact zrm2 _ _ | exact zrm3 _ _ _ | exact zrm4 _ _ _ _ | omega) only [↓k_dp, ↓k_dn, k_dp, k_dn, k_dT, k_dF, k_ip, k_in, if_true, if_false, ne_eq, not_true_eq_false, not_false_eq_true, Int.reduceAdd, zup_a, zup_e, zup_j, z32_id, k_il4, k_al0, k_len, k_ic, k_isub, k_icgt, k_ild, k_ildS, k_ildW, k_iand, k_al1, k_iadd, k_v2r, k_al2, k_iceq, k_rz, k_inc4, k_goto, zb0_some, zb1_some, e372_25, e372_26, e372_27, e372_29, e372_30, e372_33, e372_34, e372_36, e372_37, e372_39, e372_1056, e372_1057, e372_1058, e372_1060, e372_1061, e372_1062, e372_1063, e372_1066, e372_1067, e372_1068, e372_1070, e372_1071, e372_1072, e372_1073, e372_1076, e372_1079, e372_1080, e372_1507, e372_1510, h1, h2, hk, sw_26, hrow]
theorem law_27 {M : zM} (hR : Rel M) {i L : Int} (l5 l6 : zV) (i0 : 0 ≤ i) (iL : i + 6 ≤ L) (L1 : L ≤ 3072) (hk : zand (M (-2) i) 63 = 27) : ∃ M2, zEv true 120 372 23 (lawL L i l5 l6) [] M = zEv true 120 372 23 (lawL L (i + 6) l5 l6) [] M2 ∧ Rel M2 ∧ zPot M M2 := by
  obtain ⟨v, M1, M2, h1, h2, h3, h4⟩ := st_buys (M (-2) (i + 1)) hR
  have h1 : zEm true 120 28 [(29, 0, 0), (0, M (-2) (i + 1), 0)] M = some ((0, v, 0), M1) := h1
  have h2 : zEm true 120 255 [(30, 197, 0), (0, M (-2) (i + 1), 0)] M1 = some ((0, v, 0), M2) := h2
  have hrow := (zEm_k 120 _ _ _ _ _ h1 (zposl_c.mpr ⟨zposv_ge (by omega), zposl_c.mpr ⟨pos0, zposl_nil⟩⟩) (posR hR)).2.2
  refine ⟨M2, ?_, h3, h4⟩
  unfold lawL
  rw [e372_23]
  simp (disch := first | assumption | exact zrm0 | exact zrm1 _ | exact zrm2 _ _ | exact zrm3 _ _ _ | exact zrm4 _ _ _ _ | omega) only [↓k_dp, ↓k_dn, k_dp, k_dn, k_dT, k_dF, k_ip, k_in, if_true, if_false, ne_eq, not_true_eq_false, not_false_eq_true, Int.reduceAdd, zup_a, zup_e, zup_j, z32_id, k_il4, k_al0, k_len, k_ic, k_isub, k_icgt, k_ild, k_ildS, k_ildW, k_iand, k_al1, k_iadd, k_v2r, k_al2, k_iceq, k_rz, k_inc4, k_goto, zb0_some, zb1_some, e372_25, e372_26, e372_27, e372_29, e372_30, e372_33, e372_34, e372_36, e372_37, e372_39, e372_1081, e372_1082, e372_1083, e372_1085, e372_1086, e372_1087, e372_1088, e372_1091, e372_1092, e372_1093, e372_1095, e372_1096, e372_1097, e372_1098, e372_1101, e372_1104, e372_1105, e372_1507, e372_1510, h1, h2, hk, sw_27, hrow]
theorem law_28 {M : zM} (hR : Rel M) {i L : Int} (l5 l6 : zV) (i0 : 0 ≤ i) (iL : i + 6 ≤ L) (L1 : L ≤ 3072) (hk : zand (M (-2) i) 63 = 28) : ∃ M2, zEv true 120 372 23 (lawL L i l5 l6) [] M = zEv true 120 372 23 (lawL L (i + 6) l5 l6) [] M2 ∧ Rel M2 ∧ zPot M M2 := by
  obtain ⟨v, M1, M2, h1, h2, h3, h4⟩ := st_agenda  hR
  have h1 : zEm true 120 29 [(29, 0, 0)] M = some ((0, v, 0), M1) := h1
  have h2 : zEm true 120 257 [(30, 197, 0)] M1 = some ((0, v, 0), M2) := h2
  have hrow := (zEm_k 120 _ _ _ _ _ h1 (zposl_c.mpr ⟨zposv_ge (by omega), zposl_nil⟩) (posR hR)).2.2
  refine ⟨M2, ?_, h3, h4⟩
  unfold lawL
  rw [e372_23]
  simp (disch := first | assumption | exact zrm0 | exact zrm1 _ | exact zrm2 _ _ | exact zrm3 _ _ _ | exact zrm4 _ _ _ _ | omega) only [↓k_dp, ↓k_dn, k_dp, k_dn, k_dT, k_dF, k_ip, k_in, if_true, if_false, ne_eq, not_true_eq_false, not_false_eq_true, Int.reduceAdd, zup_a, zup_e, zup_j, z32_id, k_il4, k_al0, k_len, k_ic, k_isub, k_icgt, k_ild, k_ildS, k_ildW, k_iand, k_al1, k_v1r, k_al2, k_iceq, k_rz, k_inc4, k_goto, zb0_some, zb1_some, e372_25, e372_26, e372_27, e372_29, e372_30, e372_33, e372_34, e372_36, e372_37, e372_39, e372_1106, e372_1107, e372_1110, e372_1111, e372_1114, e372_1117, e372_1118, e372_1507, e372_1510, h1, h2, hk, sw_28]
theorem law_29 {M : zM} (hR : Rel M) {i L : Int} (l5 l6 : zV) (i0 : 0 ≤ i) (iL : i + 6 ≤ L) (L1 : L ≤ 3072) (hk : zand (M (-2) i) 63 = 29) : ∃ M2, zEv true 120 372 23 (lawL L i l5 l6) [] M = zEv true 120 372 23 (lawL L (i + 6) l5 l6) [] M2 ∧ Rel M2 ∧ zPot M M2 := by
  obtain ⟨v, M1, M2, h1, h2, h3, h4⟩ := st_agendaAt (M (-2) (i + 1)) hR
  have h1 : zEm true 120 30 [(29, 0, 0), (0, M (-2) (i + 1), 0)] M = some ((0, v, 0), M1) := h1
  have h2 : zEm true 120 258 [(30, 197, 0), (0, M (-2) (i + 1), 0)] M1 = some ((0, v, 0), M2) := h2
  have hrow := (zEm_k 120 _ _ _ _ _ h1 (zposl_c.mpr ⟨zposv_ge (by omega), zposl_c.mpr ⟨pos0, zposl_nil⟩⟩) (posR hR)).2.2
  refine ⟨M2, ?_, h3, h4⟩
  unfold lawL
  rw [e372_23]
  simp (disch := first | assumption | exact zrm0 | exact zrm1 _ | exact zrm2 _ _ | exact zrm3 _ _ _ | exact zrm4 _ _ _ _ | omega) only [↓k_dp, ↓k_dn, k_dp, k_dn, k_dT, k_dF, k_ip, k_in, if_true, if_false, ne_eq, not_true_eq_false, not_false_eq_true, Int.reduceAdd, zup_a, zup_e, zup_j, z32_id, k_il4, k_al0, k_len, k_ic, k_isub, k_icgt, k_ild, k_ildS, k_ildW, k_iand, k_al1, k_iadd, k_v2r, k_al2, k_iceq, k_rz, k_inc4, k_goto, zb0_some, zb1_some, e372_25, e372_26, e372_27, e372_29, e372_30, e372_33, e372_34, e372_36, e372_37, e372_39, e372_1119, e372_1120, e372_1121, e372_1123, e372_1124, e372_1125, e372_1126, e372_1129, e372_1130, e372_1131, e372_1133, e372_1134, e372_1135, e372_1136, e372_1139, e372_1142, e372_1143, e372_1507, e372_1510, h1, h2, hk, sw_29, hrow]
theorem law_30 {M : zM} (hR : Rel M) {i L : Int} (l5 l6 : zV) (i0 : 0 ≤ i) (iL : i + 6 ≤ L) (L1 : L ≤ 3072) (hk : zand (M (-2) i) 63 = 30) : ∃ M2, zEv true 120 372 23 (lawL L i l5 l6) [] M = zEv true 120 372 23 (lawL L (i + 6) l5 l6) [] M2 ∧ Rel M2 ∧ zPot M M2 := by
  obtain ⟨v, M1, M2, h1, h2, h3, h4⟩ := st_power (M (-2) (i + 1)) hR
  have h1 : zEm true 120 31 [(29, 0, 0), (0, M (-2) (i + 1), 0)] M = some ((0, v, 0), M1) := h1
  have h2 : zEm true 120 259 [(30, 197, 0), (0, M (-2) (i + 1), 0)] M1 = some ((0, v, 0), M2) := h2
  have hrow := (zEm_k 120 _ _ _ _ _ h1 (zposl_c.mpr ⟨zposv_ge (by omega), zposl_c.mpr ⟨pos0, zposl_nil⟩⟩) (posR hR)).2.2
  refine ⟨M2, ?_, h3, h4⟩
  unfold lawL
  rw [e372_23]
  simp (disch := first | assumption | exact zrm0 | exact zrm1 _ | exact zrm2 _ _ | exact zrm3 _ _ _ | exact zrm4 _ _ _ _ | omega) only [↓k_dp, ↓k_dn, k_dp, k_dn, k_dT, k_dF, k_ip, k_in, if_true, if_false, ne_eq, not_true_eq_false, not_false_eq_true, Int.reduceAdd, zup_a, zup_e, zup_j, z32_id, k_il4, k_al0, k_len, k_ic, k_isub, k_icgt, k_ild, k_ildS, k_ildW, k_iand, k_al1, k_iadd, k_v2r, k_al2, k_iceq, k_rz, k_inc4, k_goto, zb0_some, zb1_some, e372_25, e372_26, e372_27, e372_29, e372_30, e372_33, e372_34, e372_36, e372_37, e372_39, e372_1144, e372_1145, e372_1146, e372_1148, e372_1149, e372_1150, e372_1151, e372_1154, e372_1155, e372_1156, e372_1158, e372_1159, e372_1160, e372_1161, e372_1164, e372_1167, e372_1168, e372_1507, e372_1510, h1, h2, hk, sw_30, hrow]
theorem law_31 {M : zM} (hR : Rel M) {i L : Int} (l5 l6 : zV) (i0 : 0 ≤ i) (iL : i + 6 ≤ L) (L1 : L ≤ 3072) (hk : zand (M (-2) i) 63 = 31) : ∃ M2, zEv true 120 372 23 (lawL L i l5 l6) [] M = zEv true 120 372 23 (lawL L (i + 6) l5 l6) [] M2 ∧ Rel M2 ∧ zPot M M2 := by
  obtain ⟨v, M1, M2, h1, h2, h3, h4⟩ := st_heard  hR
  have h1 : zEm true 120 32 [(29, 0, 0)] M = some ((0, v, 0), M1) := h1
  have h2 : zEm true 120 260 [(30, 197, 0)] M1 = some ((0, v, 0), M2) := h2
  have hrow := (zEm_k 120 _ _ _ _ _ h1 (zposl_c.mpr ⟨zposv_ge (by omega), zposl_nil⟩) (posR hR)).2.2
  refine ⟨M2, ?_, h3, h4⟩
  unfold lawL
  rw [e372_23]
  simp (disch := first | assumption | exact zrm0 | exact zrm1 _ | exact zrm2 _ _ | exact zrm3 _ _ _ | exact zrm4 _ _ _ _ | omega) only [↓k_dp, ↓k_dn, k_dp, k_dn, k_dT, k_dF, k_ip, k_in, if_true, if_false, ne_eq, not_true_eq_false, not_false_eq_true, Int.reduceAdd, zup_a, zup_e, zup_j, z32_id, k_il4, k_al0, k_len, k_ic, k_isub, k_icgt, k_ild, k_ildS, k_ildW, k_iand, k_al1, k_v1r, k_al2, k_iceq, k_rz, k_inc4, k_goto, zb0_some, zb1_some, e372_25, e372_26, e372_27, e372_29, e372_30, e372_33, e372_34, e372_36, e372_37, e372_39, e372_1169, e372_1170, e372_1173, e372_1174, e372_1177, e372_1180, e372_1181, e372_1507, e372_1510, h1, h2, hk, sw_31]
theorem law_32 {M : zM} (hR : Rel M) {i L : Int} (l5 l6 : zV) (i0 : 0 ≤ i) (iL : i + 6 ≤ L) (L1 : L ≤ 3072) (hk : zand (M (-2) i) 63 = 32) : ∃ M2, zEv true 120 372 23 (lawL L i l5 l6) [] M = zEv true 120 372 23 (lawL L (i + 6) l5 l6) [] M2 ∧ Rel M2 ∧ zPot M M2 := by
  obtain ⟨v, M1, M2, h1, h2, h3, h4⟩ := st_surely  hR
  have h1 : zEm true 120 33 [(29, 0, 0)] M = some ((0, v, 0), M1) := h1
  have h2 : zEm true 120 261 [(30, 197, 0)] M1 = some ((0, v, 0), M2) := h2
  have hrow := (zEm_k 120 _ _ _ _ _ h1 (zposl_c.mpr ⟨zposv_ge (by omega), zposl_nil⟩) (posR hR)).2.2
  refine ⟨M2, ?_, h3, h4⟩
  unfold lawL
  rw [e372_23]
  simp (disch := first | assumption | exact zrm0 | exact zrm1 _ | exact zrm2 _ _ | exact zrm3 _ _ _ | exact zrm4 _ _ _ _ | omega) only [↓k_dp, ↓k_dn, k_dp, k_dn, k_dT, k_dF, k_ip, k_in, if_true, if_false, ne_eq, not_true_eq_false, not_false_eq_true, Int.reduceAdd, zup_a, zup_e, zup_j, z32_id, k_il4, k_al0, k_len, k_ic, k_isub, k_icgt, k_ild, k_ildS, k_ildW, k_iand, k_al1, k_v1r, k_al2, k_iceq, k_rz, k_inc4, k_goto, zb0_some, zb1_some, e372_25, e372_26, e372_27, e372_29, e372_30, e372_33, e372_34, e372_36, e372_37, e372_39, e372_1182, e372_1183, e372_1186, e372_1187, e372_1190, e372_1193, e372_1194, e372_1507, e372_1510, h1, h2, hk, sw_32]
theorem law_33 {M : zM} (hR : Rel M) {i L : Int} (l5 l6 : zV) (i0 : 0 ≤ i) (iL : i + 6 ≤ L) (L1 : L ≤ 3072) (hk : zand (M (-2) i) 63 = 33) : ∃ M2, zEv true 120 372 23 (lawL L i l5 l6) [] M = zEv true 120 372 23 (lawL L (i + 6) l5 l6) [] M2 ∧ Rel M2 ∧ zPot M M2 := by
  obtain ⟨v, M1, M2, h1, h2, h3, h4⟩ := st_ask  hR
  have h1 : zEm true 120 34 [(29, 0, 0)] M = some ((0, v, 0), M1) := h1
  have h2 : zEm true 120 262 [(30, 197, 0)] M1 = some ((0, v, 0), M2) := h2
  have hrow := (zEm_k 120 _ _ _ _ _ h1 (zposl_c.mpr ⟨zposv_ge (by omega), zposl_nil⟩) (posR hR)).2.2
  refine ⟨M2, ?_, h3, h4⟩
  unfold lawL
  rw [e372_23]
  simp (disch := first | assumption | exact zrm0 | exact zrm1 _ | exact zrm2 _ _ | exact zrm3 _ _ _ | exact zrm4 _ _ _ _ | omega) only [↓k_dp, ↓k_dn, k_dp, k_dn, k_dT, k_dF, k_ip, k_in, if_true, if_false, ne_eq, not_true_eq_false, not_false_eq_true, Int.reduceAdd, zup_a, zup_e, zup_j, z32_id, k_il4, k_al0, k_len, k_ic, k_isub, k_icgt, k_ild, k_ildS, k_ildW, k_iand, k_al1, k_v1r, k_al2, k_iceq, k_rz, k_inc4, k_goto, zb0_some, zb1_some, e372_25, e372_26, e372_27, e372_29, e372_30, e372_33, e372_34, e372_36, e372_37, e372_39, e372_1195, e372_1196, e372_1199, e372_1200, e372_1203, e372_1206, e372_1207, e372_1507, e372_1510, h1, h2, hk, sw_33]
theorem law_34 {M : zM} (hR : Rel M) {i L : Int} (l5 l6 : zV) (i0 : 0 ≤ i) (iL : i + 6 ≤ L) (L1 : L ≤ 3072) (hk : zand (M (-2) i) 63 = 34) : ∃ M2, zEv true 120 372 23 (lawL L i l5 l6) [] M = zEv true 120 372 23 (lawL L (i + 6) l5 l6) [] M2 ∧ Rel M2 ∧ zPot M M2 := by
  obtain ⟨v, M1, M2, h1, h2, h3, h4⟩ := st_crier (M (-2) (i + 1)) hR
  have h1 : zEm true 120 35 [(29, 0, 0), (0, M (-2) (i + 1), 0)] M = some ((0, v, 0), M1) := h1
  have h2 : zEm true 120 267 [(30, 197, 0), (0, M (-2) (i + 1), 0)] M1 = some ((0, v, 0), M2) := h2
  have hrow := (zEm_k 120 _ _ _ _ _ h1 (zposl_c.mpr ⟨zposv_ge (by omega), zposl_c.mpr ⟨pos0, zposl_nil⟩⟩) (posR hR)).2.2
  refine ⟨M2, ?_, h3, h4⟩
  unfold lawL
  rw [e372_23]
  simp (disch := first | assumption | exact zrm0 | exact zrm1 _ | exact zrm2 _ _ | exact zrm3 _ _ _ | exact zrm4 _ _ _ _ | omega) only [↓k_dp, ↓k_dn, k_dp, k_dn, k_dT, k_dF, k_ip, k_in, if_true, if_false, ne_eq, not_true_eq_false, not_false_eq_true, Int.reduceAdd, zup_a, zup_e, zup_j, z32_id, k_il4, k_al0, k_len, k_ic, k_isub, k_icgt, k_ild, k_ildS, k_ildW, k_iand, k_al1, k_iadd, k_v2r, k_al2, k_iceq, k_rz, k_inc4, k_goto, zb0_some, zb1_some, e372_25, e372_26, e372_27, e372_29, e372_30, e372_33, e372_34, e372_36, e372_37, e372_39, e372_1208, e372_1209, e372_1210, e372_1212, e372_1213, e372_1214, e372_1215, e372_1218, e372_1219, e372_1220, e372_1222, e372_1223, e372_1224, e372_1225, e372_1228, e372_1231, e372_1232, e372_1507, e372_1510, h1, h2, hk, sw_34, hrow]
theorem law_35 {M : zM} (hR : Rel M) {i L : Int} (l5 l6 : zV) (i0 : 0 ≤ i) (iL : i + 6 ≤ L) (L1 : L ≤ 3072) (hk : zand (M (-2) i) 63 = 35) : ∃ M2, zEv true 120 372 23 (lawL L i l5 l6) [] M = zEv true 120 372 23 (lawL L (i + 6) l5 l6) [] M2 ∧ Rel M2 ∧ zPot M M2 := by
  obtain ⟨v, M1, M2, h1, h2, h3, h4⟩ := st_byteAt (M (-2) (i + 1)) hR
  have h1 : zEm true 120 36 [(29, 0, 0), (0, M (-2) (i + 1), 0)] M = some ((0, v, 0), M1) := h1
  have h2 : zEm true 120 268 [(30, 197, 0), (0, M (-2) (i + 1), 0)] M1 = some ((0, v, 0), M2) := h2
  have hrow := (zEm_k 120 _ _ _ _ _ h1 (zposl_c.mpr ⟨zposv_ge (by omega), zposl_c.mpr ⟨pos0, zposl_nil⟩⟩) (posR hR)).2.2
  refine ⟨M2, ?_, h3, h4⟩
  unfold lawL
  rw [e372_23]
  simp (disch := first | assumption | exact zrm0 | exact zrm1 _ | exact zrm2 _ _ | exact zrm3 _ _ _ | exact zrm4 _ _ _ _ | omega) only [↓k_dp, ↓k_dn, k_dp, k_dn, k_dT, k_dF, k_ip, k_in, if_true, if_false, ne_eq, not_true_eq_false, not_false_eq_true, Int.reduceAdd, zup_a, zup_e, zup_j, z32_id, k_il4, k_al0, k_len, k_ic, k_isub, k_icgt, k_ild, k_ildS, k_ildW, k_iand, k_al1, k_iadd, k_v2r, k_al2, k_iceq, k_rz, k_inc4, k_goto, zb0_some, zb1_some, e372_25, e372_26, e372_27, e372_29, e372_30, e372_33, e372_34, e372_36, e372_37, e372_39, e372_1233, e372_1234, e372_1235, e372_1237, e372_1238, e372_1239, e372_1240, e372_1243, e372_1244, e372_1245, e372_1247, e372_1248, e372_1249, e372_1250, e372_1253, e372_1256, e372_1257, e372_1507, e372_1510, h1, h2, hk, sw_35, hrow]
theorem law_36 {M : zM} (hR : Rel M) {i L : Int} (l5 l6 : zV) (i0 : 0 ≤ i) (iL : i + 6 ≤ L) (L1 : L ≤ 3072) (hk : zand (M (-2) i) 63 = 36) : ∃ M2, zEv true 120 372 23 (lawL L i l5 l6) [] M = zEv true 120 372 23 (lawL L (i + 6) l5 l6) [] M2 ∧ Rel M2 ∧ zPot M M2 := by
  obtain ⟨v, M1, M2, h1, h2, h3, h4⟩ := st_drawn (M (-2) (i + 1)) (M (-2) (i + 2)) hR
  have h1 : zEm true 120 37 [(29, 0, 0), (0, M (-2) (i + 1), 0), (0, M (-2) (i + 2), 0)] M = some ((0, v, 0), M1) := h1
  have h2 : zEm true 120 271 [(30, 197, 0), (0, M (-2) (i + 1), 0), (0, M (-2) (i + 2), 0)] M1 = some ((0, v, 0), M2) := h2
  have hrow := (zEm_k 120 _ _ _ _ _ h1 (zposl_c.mpr ⟨zposv_ge (by omega), zposl_c.mpr ⟨pos0, zposl_c.mpr ⟨pos0, zposl_nil⟩⟩⟩) (posR hR)).2.2
  refine ⟨M2, ?_, h3, h4⟩
  unfold lawL
  rw [e372_23]
  simp (disch := first | assumption | exact zrm0 | exact zrm1 _ | exact zrm2 _ _ | exact zrm3 _ _ _ | exact zrm4 _ _ _ _ | omega) only [↓k_dp, ↓k_dn, k_dp, k_dn, k_dT, k_dF, k_ip, k_in, if_true, if_false, ne_eq, not_true_eq_false, not_false_eq_true, Int.reduceAdd, zup_a, zup_e, zup_j, z32_id, k_il4, k_al0, k_len, k_ic, k_isub, k_icgt, k_ild, k_ildS, k_ildW, k_iand, k_al1, k_iadd, k_v3r, k_al2, k_iceq, k_rz, k_inc4, k_goto, zb0_some, zb1_some, e372_25, e372_26, e372_27, e372_29, e372_30, e372_33, e372_34, e372_36, e372_37, e372_39, e372_1258, e372_1259, e372_1260, e372_1262, e372_1263, e372_1264, e372_1265, e372_1266, e372_1268, e372_1269, e372_1270, e372_1271, e372_1274, e372_1275, e372_1276, e372_1278, e372_1279, e372_1280, e372_1281, e372_1282, e372_1284, e372_1285, e372_1286, e372_1287, e372_1290, e372_1293, e372_1294, e372_1507, e372_1510, h1, h2, hk, sw_36, hrow]
theorem law_37 {M : zM} (hR : Rel M) {i L : Int} (l5 l6 : zV) (i0 : 0 ≤ i) (iL : i + 6 ≤ L) (L1 : L ≤ 3072) (hk : zand (M (-2) i) 63 = 37) : ∃ M2, zEv true 120 372 23 (lawL L i l5 l6) [] M = zEv true 120 372 23 (lawL L (i + 6) l5 l6) [] M2 ∧ Rel M2 ∧ zPot M M2 := by
  obtain ⟨v, M1, M2, h1, h2, h3, h4⟩ := st_odds (M (-2) (i + 1)) (M (-2) (i + 2)) (M (-2) (i + 3)) hR
  have h1 : zEm true 120 38 [(29, 0, 0), (0, M (-2) (i + 1), 0), (0, M (-2) (i + 2), 0), (0, M (-2) (i + 3), 0)] M = some ((0, v, 0), M1) := h1
  have h2 : zEm true 120 274 [(30, 197, 0), (0, M (-2) (i + 1), 0), (0, M (-2) (i + 2), 0), (0, M (-2) (i + 3), 0)] M1 = some ((0, v, 0), M2) := h2
  have hrow := (zEm_k 120 _ _ _ _ _ h1 (zposl_c.mpr ⟨zposv_ge (by omega), zposl_c.mpr ⟨pos0, zposl_c.mpr ⟨pos0, zposl_c.mpr ⟨pos0, zposl_nil⟩⟩⟩⟩) (posR hR)).2.2
  refine ⟨M2, ?_, h3, h4⟩
  unfold lawL
  rw [e372_23]
  simp (disch := first | assumption | exact zrm0 | exact zrm1 _ | exact zrm2 _ _ | exact zrm3 _ _ _ | exact zrm4 _ _ _ _ | omega) only [↓k_dp, ↓k_dn, k_dp, k_dn, k_dT, k_dF, k_ip, k_in, if_true, if_false, ne_eq, not_true_eq_false, not_false_eq_true, Int.reduceAdd, zup_a, zup_e, zup_j, z32_id, k_il4, k_al0, k_len, k_ic, k_isub, k_icgt, k_ild, k_ildS, k_ildW, k_iand, k_al1, k_iadd, k_v4r, k_al2, k_iceq, k_rz, k_inc4, k_goto, zb0_some, zb1_some, e372_25, e372_26, e372_27, e372_29, e372_30, e372_33, e372_34, e372_36, e372_37, e372_39, e372_1295, e372_1296, e372_1297, e372_1299, e372_1300, e372_1301, e372_1302, e372_1303, e372_1305, e372_1306, e372_1307, e372_1308, e372_1309, e372_1311, e372_1312, e372_1313, e372_1314, e372_1317, e372_1318, e372_1319, e372_1321, e372_1322, e372_1323, e372_1324, e372_1325, e372_1327, e372_1328, e372_1329, e372_1330, e372_1331, e372_1333, e372_1334, e372_1335, e372_1336, e372_1339, e372_1342, e372_1343, e372_1507, e372_1510, h1, h2, hk, sw_37, hrow]
theorem law_38 {M : zM} (hR : Rel M) {i L : Int} (l5 l6 : zV) (i0 : 0 ≤ i) (iL : i + 6 ≤ L) (L1 : L ≤ 3072) (hk : zand (M (-2) i) 63 = 38) : ∃ M2, zEv true 120 372 23 (lawL L i l5 l6) [] M = zEv true 120 372 23 (lawL L (i + 6) l5 l6) [] M2 ∧ Rel M2 ∧ zPot M M2 := by
  obtain ⟨v, M1, M2, h1, h2, h3, h4⟩ := st_book (M (-2) (i + 1)) hR
  have h1 : zEm true 120 39 [(29, 0, 0), (0, M (-2) (i + 1), 0)] M = some ((0, v, 0), M1) := h1
  have h2 : zEm true 120 283 [(30, 197, 0), (0, M (-2) (i + 1), 0)] M1 = some ((0, v, 0), M2) := h2
  have hrow := (zEm_k 120 _ _ _ _ _ h1 (zposl_c.mpr ⟨zposv_ge (by omega), zposl_c.mpr ⟨pos0, zposl_nil⟩⟩) (posR hR)).2.2
  refine ⟨M2, ?_, h3, h4⟩
  unfold lawL
  rw [e372_23]
  simp (disch := first | assumption | exact zrm0 | exact zrm1 _ | exact zrm2 _ _ | exact zrm3 _ _ _ | exact zrm4 _ _ _ _ | omega) only [↓k_dp, ↓k_dn, k_dp, k_dn, k_dT, k_dF, k_ip, k_in, if_true, if_false, ne_eq, not_true_eq_false, not_false_eq_true, Int.reduceAdd, zup_a, zup_e, zup_j, z32_id, k_il4, k_al0, k_len, k_ic, k_isub, k_icgt, k_ild, k_ildS, k_ildW, k_iand, k_al1, k_iadd, k_v2r, k_al2, k_iceq, k_rz, k_inc4, k_goto, zb0_some, zb1_some, e372_25, e372_26, e372_27, e372_29, e372_30, e372_33, e372_34, e372_36, e372_37, e372_39, e372_1344, e372_1345, e372_1346, e372_1348, e372_1349, e372_1350, e372_1351, e372_1354, e372_1355, e372_1356, e372_1358, e372_1359, e372_1360, e372_1361, e372_1364, e372_1367, e372_1368, e372_1507, e372_1510, h1, h2, hk, sw_38, hrow]
theorem law_39 {M : zM} (hR : Rel M) {i L : Int} (l5 l6 : zV) (i0 : 0 ≤ i) (iL : i + 6 ≤ L) (L1 : L ≤ 3072) (hk : zand (M (-2) i) 63 = 39) : ∃ M2, zEv true 120 372 23 (lawL L i l5 l6) [] M = zEv true 120 372 23 (lawL L (i + 6) l5 l6) [] M2 ∧ Rel M2 ∧ zPot M M2 := by
  obtain ⟨v, M1, M2, h1, h2, h3, h4⟩ := st_told (M (-2) (i + 1)) hR
  have h1 : zEm true 120 40 [(29, 0, 0), (0, M (-2) (i + 1), 0)] M = some ((0, v, 0), M1) := h1
  have h2 : zEm true 120 285 [(30, 197, 0), (0, M (-2) (i + 1), 0)] M1 = some ((0, v, 0), M2) := h2
  have hrow := (zEm_k 120 _ _ _ _ _ h1 (zposl_c.mpr ⟨zposv_ge (by omega), zposl_c.mpr ⟨pos0, zposl_nil⟩⟩) (posR hR)).2.2
  refine ⟨M2, ?_, h3, h4⟩
  unfold lawL
  rw [e372_23]
  simp (disch := first | assumption | exact zrm0 | exact zrm1 _ | exact zrm2 _ _ | exact zrm3 _ _ _ | exact zrm4 _ _ _ _ | omega) only [↓k_dp, ↓k_dn, k_dp, k_dn, k_dT, k_dF, k_ip, k_in, if_true, if_false, ne_eq, not_true_eq_false, not_false_eq_true, Int.reduceAdd, zup_a, zup_e, zup_j, z32_id, k_il4, k_al0, k_len, k_ic, k_isub, k_icgt, k_ild, k_ildS, k_ildW, k_iand, k_al1, k_iadd, k_v2r, k_al2, k_iceq, k_rz, k_inc4, k_goto, zb0_some, zb1_some, e372_25, e372_26, e372_27, e372_29, e372_30, e372_33, e372_34, e372_36, e372_37, e372_39, e372_1369, e372_1370, e372_1371, e372_1373, e372_1374, e372_1375, e372_1376, e372_1379, e372_1380, e372_1381, e372_1383, e372_1384, e372_1385, e372_1386, e372_1389, e372_1392, e372_1393, e372_1507, e372_1510, h1, h2, hk, sw_39, hrow]
theorem law_40 {M : zM} (hR : Rel M) {i L : Int} (l5 l6 : zV) (i0 : 0 ≤ i) (iL : i + 6 ≤ L) (L1 : L ≤ 3072) (hk : zand (M (-2) i) 63 = 40) : ∃ M2, zEv true 120 372 23 (lawL L i l5 l6) [] M = zEv true 120 372 23 (lawL L (i + 6) l5 l6) [] M2 ∧ Rel M2 ∧ zPot M M2 := by
  obtain ⟨v, M1, M2, h1, h2, h3, h4⟩ := st_sentence  hR
  have h1 : zEm true 120 41 [(29, 0, 0)] M = some ((0, v, 0), M1) := h1
  have h2 : zEm true 120 294 [(30, 197, 0)] M1 = some ((0, v, 0), M2) := h2
  have hrow := (zEm_k 120 _ _ _ _ _ h1 (zposl_c.mpr ⟨zposv_ge (by omega), zposl_nil⟩) (posR hR)).2.2
  refine ⟨M2, ?_, h3, h4⟩
  unfold lawL
  rw [e372_23]
  simp (disch := first | assumption | exact zrm0 | exact zrm1 _ | exact zrm2 _ _ | exact zrm3 _ _ _ | exact zrm4 _ _ _ _ | omega) only [↓k_dp, ↓k_dn, k_dp, k_dn, k_dT, k_dF, k_ip, k_in, if_true, if_false, ne_eq, not_true_eq_false, not_false_eq_true, Int.reduceAdd, zup_a, zup_e, zup_j, z32_id, k_il4, k_al0, k_len, k_ic, k_isub, k_icgt, k_ild, k_ildS, k_ildW, k_iand, k_al1, k_v1r, k_al2, k_iceq, k_rz, k_inc4, k_goto, zb0_some, zb1_some, e372_25, e372_26, e372_27, e372_29, e372_30, e372_33, e372_34, e372_36, e372_37, e372_39, e372_1394, e372_1395, e372_1398, e372_1399, e372_1402, e372_1405, e372_1406, e372_1507, e372_1510, h1, h2, hk, sw_40]
theorem law_41 {M : zM} (hR : Rel M) {i L : Int} (l5 l6 : zV) (i0 : 0 ≤ i) (iL : i + 6 ≤ L) (L1 : L ≤ 3072) (hk : zand (M (-2) i) 63 = 41) : ∃ M2, zEv true 120 372 23 (lawL L i l5 l6) [] M = zEv true 120 372 23 (lawL L (i + 6) l5 l6) [] M2 ∧ Rel M2 ∧ zPot M M2 := by
  obtain ⟨v, M1, M2, h1, h2, h3, h4⟩ := st_said (M (-2) (i + 1)) hR
  have h1 : zEm true 120 42 [(29, 0, 0), (0, M (-2) (i + 1), 0)] M = some ((0, v, 0), M1) := h1
  have h2 : zEm true 120 296 [(30, 197, 0), (0, M (-2) (i + 1), 0)] M1 = some ((0, v, 0), M2) := h2
  have hrow := (zEm_k 120 _ _ _ _ _ h1 (zposl_c.mpr ⟨zposv_ge (by omega), zposl_c.mpr ⟨pos0, zposl_nil⟩⟩) (posR hR)).2.2
  refine ⟨M2, ?_, h3, h4⟩
  unfold lawL
  rw [e372_23]
  simp (disch := first | assumption | exact zrm0 | exact zrm1 _ | exact zrm2 _ _ | exact zrm3 _ _ _ | exact zrm4 _ _ _ _ | omega) only [↓k_dp, ↓k_dn, k_dp, k_dn, k_dT, k_dF, k_ip, k_in, if_true, if_false, ne_eq, not_true_eq_false, not_false_eq_true, Int.reduceAdd, zup_a, zup_e, zup_j, z32_id, k_il4, k_al0, k_len, k_ic, k_isub, k_icgt, k_ild, k_ildS, k_ildW, k_iand, k_al1, k_iadd, k_v2r, k_al2, k_iceq, k_rz, k_inc4, k_goto, zb0_some, zb1_some, e372_25, e372_26, e372_27, e372_29, e372_30, e372_33, e372_34, e372_36, e372_37, e372_39, e372_1407, e372_1408, e372_1409, e372_1411, e372_1412, e372_1413, e372_1414, e372_1417, e372_1418, e372_1419, e372_1421, e372_1422, e372_1423, e372_1424, e372_1427, e372_1430, e372_1431, e372_1507, e372_1510, h1, h2, hk, sw_41, hrow]
theorem law_42 {M : zM} (hR : Rel M) {i L : Int} (l5 l6 : zV) (i0 : 0 ≤ i) (iL : i + 6 ≤ L) (L1 : L ≤ 3072) (hk : zand (M (-2) i) 63 = 42) : ∃ M2, zEv true 120 372 23 (lawL L i l5 l6) [] M = zEv true 120 372 23 (lawL L (i + 6) l5 l6) [] M2 ∧ Rel M2 ∧ zPot M M2 := by
  obtain ⟨v, M1, M2, h1, h2, h3, h4⟩ := st_image (M (-2) (i + 1)) hR
  have h1 : zEm true 120 43 [(29, 0, 0), (0, M (-2) (i + 1), 0)] M = some ((0, v, 0), M1) := h1
  have h2 : zEm true 120 297 [(30, 197, 0), (0, M (-2) (i + 1), 0)] M1 = some ((0, v, 0), M2) := h2
  have hrow := (zEm_k 120 _ _ _ _ _ h1 (zposl_c.mpr ⟨zposv_ge (by omega), zposl_c.mpr ⟨pos0, zposl_nil⟩⟩) (posR hR)).2.2
  refine ⟨M2, ?_, h3, h4⟩
  unfold lawL
  rw [e372_23]
  simp (disch := first | assumption | exact zrm0 | exact zrm1 _ | exact zrm2 _ _ | exact zrm3 _ _ _ | exact zrm4 _ _ _ _ | omega) only [↓k_dp, ↓k_dn, k_dp, k_dn, k_dT, k_dF, k_ip, k_in, if_true, if_false, ne_eq, not_true_eq_false, not_false_eq_true, Int.reduceAdd, zup_a, zup_e, zup_j, z32_id, k_il4, k_al0, k_len, k_ic, k_isub, k_icgt, k_ild, k_ildS, k_ildW, k_iand, k_al1, k_iadd, k_v2r, k_al2, k_iceq, k_rz, k_inc4, k_goto, zb0_some, zb1_some, e372_25, e372_26, e372_27, e372_29, e372_30, e372_33, e372_34, e372_36, e372_37, e372_39, e372_1432, e372_1433, e372_1434, e372_1436, e372_1437, e372_1438, e372_1439, e372_1442, e372_1443, e372_1444, e372_1446, e372_1447, e372_1448, e372_1449, e372_1452, e372_1455, e372_1456, e372_1507, e372_1510, h1, h2, hk, sw_42, hrow]
theorem law_43 {M : zM} (hR : Rel M) {i L : Int} (l5 l6 : zV) (i0 : 0 ≤ i) (iL : i + 6 ≤ L) (L1 : L ≤ 3072) (hk : zand (M (-2) i) 63 = 43) : ∃ M2, zEv true 120 372 23 (lawL L i l5 l6) [] M = zEv true 120 372 23 (lawL L (i + 6) l5 l6) [] M2 ∧ Rel M2 ∧ zPot M M2 := by
  obtain ⟨v, M1, M2, h1, h2, h3, h4⟩ := st_restore (M (-2) (i + 1)) hR
  have h1 : zEm true 120 44 [(29, 0, 0), (0, M (-2) (i + 1), 0)] M = some ((0, v, 0), M1) := h1
  have h2 : zEm true 120 298 [(30, 197, 0), (0, M (-2) (i + 1), 0)] M1 = some ((0, v, 0), M2) := h2
  have hrow := (zEm_k 120 _ _ _ _ _ h1 (zposl_c.mpr ⟨zposv_ge (by omega), zposl_c.mpr ⟨pos0, zposl_nil⟩⟩) (posR hR)).2.2
  refine ⟨M2, ?_, h3, h4⟩
  unfold lawL
  rw [e372_23]
  simp (disch := first | assumption | exact zrm0 | exact zrm1 _ | exact zrm2 _ _ | exact zrm3 _ _ _ | exact zrm4 _ _ _ _ | omega) only [↓k_dp, ↓k_dn, k_dp, k_dn, k_dT, k_dF, k_ip, k_in, if_true, if_false, ne_eq, not_true_eq_false, not_false_eq_true, Int.reduceAdd, zup_a, zup_e, zup_j, z32_id, k_il4, k_al0, k_len, k_ic, k_isub, k_icgt, k_ild, k_ildS, k_ildW, k_iand, k_al1, k_iadd, k_v2r, k_al2, k_iceq, k_rz, k_inc4, k_goto, zb0_some, zb1_some, e372_25, e372_26, e372_27, e372_29, e372_30, e372_33, e372_34, e372_36, e372_37, e372_39, e372_1457, e372_1458, e372_1459, e372_1461, e372_1462, e372_1463, e372_1464, e372_1467, e372_1468, e372_1469, e372_1471, e372_1472, e372_1473, e372_1474, e372_1477, e372_1480, e372_1481, e372_1507, e372_1510, h1, h2, hk, sw_43, hrow]
theorem law_44 {M : zM} (hR : Rel M) {i L : Int} (l5 l6 : zV) (i0 : 0 ≤ i) (iL : i + 6 ≤ L) (L1 : L ≤ 3072) (hk : zand (M (-2) i) 63 = 44) : ∃ M2, zEv true 120 372 23 (lawL L i l5 l6) [] M = zEv true 120 372 23 (lawL L (i + 6) l5 l6) [] M2 ∧ Rel M2 ∧ zPot M M2 := by
  obtain ⟨v, M1, M2, h1, h2, h3, h4⟩ := st_count (M (-2) (i + 1)) hR
  have h1 : zEm true 120 45 [(29, 0, 0), (0, M (-2) (i + 1), 0)] M = some ((0, v, 0), M1) := h1
  have h2 : zEm true 120 299 [(30, 197, 0), (0, M (-2) (i + 1), 0)] M1 = some ((0, v, 0), M2) := h2
  have hrow := (zEm_k 120 _ _ _ _ _ h1 (zposl_c.mpr ⟨zposv_ge (by omega), zposl_c.mpr ⟨pos0, zposl_nil⟩⟩) (posR hR)).2.2
  refine ⟨M2, ?_, h3, h4⟩
  unfold lawL
  rw [e372_23]
  simp (disch := first | assumption | exact zrm0 | exact zrm1 _ | exact zrm2 _ _ | exact zrm3 _ _ _ | exact zrm4 _ _ _ _ | omega) only [↓k_dp, ↓k_dn, k_dp, k_dn, k_dT, k_dF, k_ip, k_in, if_true, if_false, ne_eq, not_true_eq_false, not_false_eq_true, Int.reduceAdd, zup_a, zup_e, zup_j, z32_id, k_il4, k_al0, k_len, k_ic, k_isub, k_icgt, k_ild, k_ildS, k_ildW, k_iand, k_al1, k_iadd, k_v2r, k_al2, k_iceq, k_rz, k_inc4, k_goto, zb0_some, zb1_some, e372_25, e372_26, e372_27, e372_29, e372_30, e372_33, e372_34, e372_36, e372_37, e372_39, e372_1482, e372_1483, e372_1484, e372_1486, e372_1487, e372_1488, e372_1489, e372_1492, e372_1493, e372_1494, e372_1496, e372_1497, e372_1498, e372_1499, e372_1502, e372_1505, e372_1506, e372_1507, e372_1510, h1, h2, hk, sw_44, hrow]
