/-! each act of both -/
theorem pair_buy (d : Nat) (x0 z0 h y0 z1 n y1 z2 : Int) (M : zM) (hC : relC M) (hE : relE M) (hF : relF M) : zPair M (zEm true (d + 8) 11 [(29, 0, x0), (0, h, y0), (0, n, y1)] M) (fun M1 => zEm true (d + 8) 232 [(30, 197, z0), (0, h, z1), (0, n, z2)] M1) := by
  have hG := hC.2
  obtain ⟨n0, n1, n2, n3, n4, n5⟩ := relC_n hC
  obtain ⟨⟨g6, g6'⟩, ⟨g1, g2⟩, ⟨g3, g4⟩, -, -, -, gh, -, -⟩ := okG_M hG
  have hF2 := hF
  obtain ⟨⟨f0, f1⟩, f2, f3, -⟩ := hF2
  refine pair_act (V := (0 ≤ h ∧ h < M 30 7) ∧ 1 ≤ n ∧ n ≤ 20) (W := sWhyBuy (zvS M 37) (zvG M 30) h n) (S' := tBuy (zvS M 37) (zvG M 30) h n) (fl := M 199 78) hC hE hF (c_buy (d + 4) x0 h y0 n y1 M hG f0 f1 f3) (fun M1 e1 e2 e3 e4 => ?_) (fun hv hw => ?_)
  · have e5 : M1 199 1 = M 30 7 := by rw [← zrG_07 (M := M1), e2, zvG_0 (by omega) (by omega)]
    have e6 : M1 199 2 = M 30 8 := by rw [← zrG_08 (M := M1), e2, zvG_0 (by omega) (by omega)]
    have k := r_buy d z0 h z1 n z2 M1 (by rw [e1]; exact hE.2.1.1) (by rw [e2]; exact hG) (by rw [e1, e2, e3]; exact hE.2.2) (by rw [e4, f2]; exact f0) (by rw [e4, f2]; exact f1)
    rw [e1] at k
    simp only [e2, e5, e6, e3] at k
    exact k
  · obtain ⟨c1, c2, c3⟩ := hv
    exact ⟨⟨okS_buy hE.2.1.1 hG c1.1 (by omega) c2 c3 hw, okH_buy hE.2.1.2 (by rw [zvG_0 (by omega) (by omega)]; exact c1.2)⟩, hE.2.2.trans (congrArg zfl (sPut_eq (fun _ => by unfold tBuy; rw [zup_a (by omega), zup_a (by omega)]) (fun _ => by unfold tBuy; rw [zup_a (by omega), zup_a (by omega)]) (by unfold tBuy; rw [zup_a (by omega), zup_a (by omega)])).symm)⟩
theorem pair_strike (d : Nat) (x0 z0 h y0 z1 : Int) (M : zM) (hC : relC M) (hE : relE M) (hF : relF M) : zPair M (zEm true (d + 8) 12 [(29, 0, x0), (0, h, y0)] M) (fun M1 => zEm true (d + 8) 233 [(30, 197, z0), (0, h, z1)] M1) := by
  have hG := hC.2
  obtain ⟨n0, n1, n2, n3, n4, n5⟩ := relC_n hC
  obtain ⟨⟨g6, g6'⟩, ⟨g1, g2⟩, ⟨g3, g4⟩, -, -, -, gh, -, -⟩ := okG_M hG
  have hF2 := hF
  obtain ⟨⟨f0, f1⟩, f2, f3, -⟩ := hF2
  refine pair_act (V := 0 ≤ h ∧ h < M 30 7) (W := (if zbit (zvS M 37 0 8) h ≠ 0 then (1 : Int) else 0)) (S' := zup (zvS M 37) 0 8 (zor (zvS M 37 0 8) (zshl 1 h))) (fl := M 199 78) hC hE hF (c_strike (d + 4) x0 h y0 M hG f0 f1 f3) (fun M1 e1 e2 e3 e4 => ?_) (fun hv hw => ?_)
  · have e5 : M1 199 1 = M 30 7 := by rw [← zrG_07 (M := M1), e2, zvG_0 (by omega) (by omega)]
    have e6 : M1 199 2 = M 30 8 := by rw [← zrG_08 (M := M1), e2, zvG_0 (by omega) (by omega)]
    have k := r_strike d z0 h z1 M1 (by rw [e1]; exact hE.2.1.1) (by rw [e2]; exact hG) (by rw [e1, e2, e3]; exact hE.2.2) (by rw [e4, f2]; exact f0) (by rw [e4, f2]; exact f1)
    rw [e1] at k
    simp only [e2, e5, e6, e3] at k
    refine ⟨k.1, fun hv => ⟨(k.2 hv).1, fun hw => ?_⟩⟩
    have c2 : zbit (zvS M 37 0 8) h = 0 := by
      by_cases c : zbit (zvS M 37 0 8) h = 0
      · exact c
      · rw [if_pos c] at hw; exact absurd hw (by decide)
    obtain ⟨⟨s0, s1⟩, -⟩ := hE.2.1.1
    have bt := (zbits (h := h) s0 s1 hv.1 (by omega)).1 c2
    have k := (k.2 hv).2 hw
    rw [bt] at k
    exact k
  · obtain ⟨⟨s0, s1⟩, -⟩ := hE.2.1.1
    have bt := zbits (h := h) s0 s1 hv.1 (by omega)
    exact ⟨⟨okS_u08 hE.2.1.1 bt.2.2.2.1.1 bt.2.2.2.1.2, okH_row hE.2.1.2 (by omega) (by omega)⟩, hE.2.2.trans (congrArg zfl (sPut_eq (fun _ => zup_a (by omega)) (fun _ => zup_a (by omega)) (zup_j (by omega))).symm)⟩
theorem pair_work (d : Nat) (x0 z0 h y0 z1 : Int) (M : zM) (hC : relC M) (hE : relE M) (hF : relF M) : zPair M (zEm true (d + 8) 13 [(29, 0, x0), (0, h, y0)] M) (fun M1 => zEm true (d + 8) 234 [(30, 197, z0), (0, h, z1)] M1) := by
  have hG := hC.2
  obtain ⟨n0, n1, n2, n3, n4, n5⟩ := relC_n hC
  obtain ⟨⟨g6, g6'⟩, ⟨g1, g2⟩, ⟨g3, g4⟩, -, -, -, gh, -, -⟩ := okG_M hG
  have hF2 := hF
  obtain ⟨⟨f0, f1⟩, f2, f3, -⟩ := hF2
  refine pair_act (V := 0 ≤ h ∧ h < M 30 7) (W := (if zbit (zvS M 37 0 8) h ≠ 0 then (0 : Int) else 1)) (S' := zup (zvS M 37) 0 8 (zand (zvS M 37 0 8) (zxor (zshl 1 h) (-1)))) (fl := M 199 78) hC hE hF (c_work (d + 4) x0 h y0 M hG f0 f1 f3) (fun M1 e1 e2 e3 e4 => ?_) (fun hv hw => ?_)
  · have e5 : M1 199 1 = M 30 7 := by rw [← zrG_07 (M := M1), e2, zvG_0 (by omega) (by omega)]
    have e6 : M1 199 2 = M 30 8 := by rw [← zrG_08 (M := M1), e2, zvG_0 (by omega) (by omega)]
    have k := r_work d z0 h z1 M1 (by rw [e1]; exact hE.2.1.1) (by rw [e2]; exact hG) (by rw [e1, e2, e3]; exact hE.2.2) (by rw [e4, f2]; exact f0) (by rw [e4, f2]; exact f1)
    rw [e1] at k
    simp only [e2, e5, e6, e3] at k
    refine ⟨k.1, fun hv => ⟨(k.2 hv).1, fun hw => ?_⟩⟩
    have c2 : zbit (zvS M 37 0 8) h ≠ 0 := by
      by_cases c : zbit (zvS M 37 0 8) h = 0
      · rw [if_neg (fun z => z c)] at hw; exact absurd hw (by decide)
      · exact c
    obtain ⟨⟨s0, s1⟩, -⟩ := hE.2.1.1
    have bt := (zbits (h := h) s0 s1 hv.1 (by omega)).2.1 c2
    have k := (k.2 hv).2 hw
    rw [bt] at k
    exact k
  · obtain ⟨⟨s0, s1⟩, -⟩ := hE.2.1.1
    have bt := zbits (h := h) s0 s1 hv.1 (by omega)
    exact ⟨⟨okS_u08 hE.2.1.1 bt.2.2.2.2.1 bt.2.2.2.2.2, okH_row hE.2.1.2 (by omega) (by omega)⟩, hE.2.2.trans (congrArg zfl (sPut_eq (fun _ => zup_a (by omega)) (fun _ => zup_a (by omega)) (zup_j (by omega))).symm)⟩
theorem pair_sway (d : Nat) (x0 z0 h y0 z1 q y1 z2 w y2 z3 : Int) (M : zM) (hC : relC M) (hE : relE M) (hF : relF M) : zPair M (zEm true (d + 8) 14 [(29, 0, x0), (0, h, y0), (0, q, y1), (0, w, y2)] M) (fun M1 => zEm true (d + 8) 235 [(30, 197, z0), (0, h, z1), (0, q, z2), (0, w, z3)] M1) := by
  have hG := hC.2
  obtain ⟨n0, n1, n2, n3, n4, n5⟩ := relC_n hC
  obtain ⟨⟨g6, g6'⟩, ⟨g1, g2⟩, ⟨g3, g4⟩, -, -, -, gh, -, -⟩ := okG_M hG
  have hF2 := hF
  obtain ⟨⟨f0, f1⟩, f2, f3, -⟩ := hF2
  refine pair_act (V := (0 ≤ h ∧ h < M 30 7) ∧ (0 ≤ q ∧ q < M 30 8) ∧ (0 ≤ w ∧ w ≤ 1)) (W := sWhySway (zvS M 37) h q w) (S' := tSway (zvS M 37) h q w) (fl := M 199 78) hC hE hF (c_sway (d + 3) x0 h y0 q y1 w y2 M hG f0 f1 f3) (fun M1 e1 e2 e3 e4 => ?_) (fun hv hw => ?_)
  · have e5 : M1 199 1 = M 30 7 := by rw [← zrG_07 (M := M1), e2, zvG_0 (by omega) (by omega)]
    have e6 : M1 199 2 = M 30 8 := by rw [← zrG_08 (M := M1), e2, zvG_0 (by omega) (by omega)]
    have k := r_sway d z0 h z1 q z2 w z3 M1 (by rw [e1]; exact hE.2.1.1) (by rw [e2]; exact hG) (by rw [e1, e2, e3]; exact hE.2.2) (by rw [e4, f2]; exact f0) (by rw [e4, f2]; exact f1)
    rw [e1] at k
    simp only [e2, e5, e6, e3] at k
    exact k
  · obtain ⟨c1, c2, c3⟩ := hv
    exact ⟨⟨okS_sway hE.2.1.1 c1.1 (by omega) c2.1 (by omega), okH_sway hE.2.1.2⟩, hE.2.2.trans (congrArg zfl (sPut_eq (fun _ => by unfold tSway; split <;> rw [zup_a (by omega), zup_a (by omega)]) (fun _ => by unfold tSway; split <;> rw [zup_a (by omega), zup_a (by omega)]) (by unfold tSway; split <;> rw [zup_a (by omega), zup_a (by omega)])).symm)⟩
theorem pair_put (d : Nat) (x0 z0 q y0 z1 : Int) (M : zM) (hC : relC M) (hE : relE M) (hF : relF M) : zPair M (zEm true (d + 8) 15 [(29, 0, x0), (0, q, y0)] M) (fun M1 => zEm true (d + 8) 236 [(30, 197, z0), (0, q, z1)] M1) := by
  have hG := hC.2
  obtain ⟨n0, n1, n2, n3, n4, n5⟩ := relC_n hC
  obtain ⟨⟨g6, g6'⟩, ⟨g1, g2⟩, ⟨g3, g4⟩, -, -, -, gh, -, -⟩ := okG_M hG
  have hF2 := hF
  obtain ⟨⟨f0, f1⟩, f2, f3, -⟩ := hF2
  refine pair_act (V := 0 ≤ q ∧ q < M 30 8) (W := sWhyPut (zvS M 37) (zvG M 30) q) (S' := tPut (zvS M 37) (zvG M 30) q) (fl := 1) hC hE hF (c_put (d + 2) x0 q y0 M hG f0 f1 f3) (fun M1 e1 e2 e3 e4 => ?_) (fun hv hw => ?_)
  · have e5 : M1 199 1 = M 30 7 := by rw [← zrG_07 (M := M1), e2, zvG_0 (by omega) (by omega)]
    have e6 : M1 199 2 = M 30 8 := by rw [← zrG_08 (M := M1), e2, zvG_0 (by omega) (by omega)]
    have k := r_put d z0 q z1 M1 (by rw [e1]; exact hE.2.1.1) (by rw [e2]; exact hG) (by rw [e1, e2, e3]; exact hE.2.2) (by rw [e4, f2]; exact f0) (by rw [e4, f2]; exact f1)
    rw [e1] at k
    simp only [e2, e5, e6, e3] at k
    exact k
  · exact ⟨⟨okS_put hE.2.1.1 hG hv.1 (by omega), okH_put hE.2.1.2 hG.2.1.1 hE.2.1.1 hG⟩, by rw [sPut_put hv.1 (by rw [zvG_0 (by omega) (by omega)]; exact hv.2)]; rfl⟩
theorem pair_lay (d : Nat) (x0 z0 w y0 z1 n y1 z2 : Int) (M : zM) (hC : relC M) (hE : relE M) (hF : relF M) : zPair M (zEm true (d + 8) 16 [(29, 0, x0), (0, w, y0), (0, n, y1)] M) (fun M1 => zEm true (d + 8) 237 [(30, 197, z0), (0, w, z1), (0, n, z2)] M1) := by
  have hG := hC.2
  obtain ⟨n0, n1, n2, n3, n4, n5⟩ := relC_n hC
  obtain ⟨⟨g6, g6'⟩, ⟨g1, g2⟩, ⟨g3, g4⟩, -, -, -, gh, -, -⟩ := okG_M hG
  have hF2 := hF
  obtain ⟨⟨f0, f1⟩, f2, f3, -⟩ := hF2
  refine pair_act (V := (0 ≤ w ∧ w ≤ 1) ∧ 0 ≤ n ∧ n ≤ 20) (W := (if zvS M 37 8 w = n then (1 : Int) else 0)) (S' := zup (zvS M 37) 8 w n) (fl := M 199 78) hC hE hF (c_lay (d + 4) x0 w y0 n y1 M hG f0 f1 f3) (fun M1 e1 e2 e3 e4 => ?_) (fun hv hw => ?_)
  · have e5 : M1 199 1 = M 30 7 := by rw [← zrG_07 (M := M1), e2, zvG_0 (by omega) (by omega)]
    have e6 : M1 199 2 = M 30 8 := by rw [← zrG_08 (M := M1), e2, zvG_0 (by omega) (by omega)]
    have k := r_lay d z0 w z1 n z2 M1 (by rw [e1]; exact hE.2.1.1) (by rw [e2]; exact hG) (by rw [e1, e2, e3]; exact hE.2.2) (by rw [e4, f2]; exact f0) (by rw [e4, f2]; exact f1)
    rw [e1] at k
    simp only [e2, e5, e6, e3] at k
    exact k
  · obtain ⟨c1, c2, c3⟩ := hv
    exact ⟨⟨okS_u8 hE.2.1.1 c2 c3, okH_row hE.2.1.2 (by omega) (by omega)⟩, hE.2.2.trans (congrArg zfl (sPut_eq (fun _ => zup_a (by omega)) (fun _ => zup_a (by omega)) (zup_a (by omega))).symm)⟩
theorem pair_weather (d : Nat) (x0 z0 k y0 z1 : Int) (M : zM) (hC : relC M) (hE : relE M) (hF : relF M) : zPair M (zEm true (d + 8) 17 [(29, 0, x0), (0, k, y0)] M) (fun M1 => zEm true (d + 8) 238 [(30, 197, z0), (0, k, z1)] M1) := by
  have hG := hC.2
  obtain ⟨n0, n1, n2, n3, n4, n5⟩ := relC_n hC
  obtain ⟨⟨g6, g6'⟩, ⟨g1, g2⟩, ⟨g3, g4⟩, -, -, -, gh, -, -⟩ := okG_M hG
  have hF2 := hF
  obtain ⟨⟨f0, f1⟩, f2, f3, -⟩ := hF2
  refine pair_act (V := 0 ≤ k ∧ k ≤ 2) (W := (if zvS M 37 0 9 = k then (1 : Int) else 0)) (S' := zup (zvS M 37) 0 9 k) (fl := M 199 78) hC hE hF (c_weather (d + 4) x0 k y0 M hG f0 f1 f3) (fun M1 e1 e2 e3 e4 => ?_) (fun hv hw => ?_)
  · have e5 : M1 199 1 = M 30 7 := by rw [← zrG_07 (M := M1), e2, zvG_0 (by omega) (by omega)]
    have e6 : M1 199 2 = M 30 8 := by rw [← zrG_08 (M := M1), e2, zvG_0 (by omega) (by omega)]
    have k := r_weather d z0 k z1 M1 (by rw [e1]; exact hE.2.1.1) (by rw [e2]; exact hG) (by rw [e1, e2, e3]; exact hE.2.2) (by rw [e4, f2]; exact f0) (by rw [e4, f2]; exact f1)
    rw [e1] at k
    simp only [e2, e5, e6, e3] at k
    exact k
  · exact ⟨⟨okS_u09 hE.2.1.1 hv.1 hv.2, okH_row hE.2.1.2 (by omega) (by omega)⟩, hE.2.2.trans (congrArg zfl (sPut_eq (fun _ => zup_a (by omega)) (fun _ => zup_a (by omega)) (zup_j (by omega))).symm)⟩
