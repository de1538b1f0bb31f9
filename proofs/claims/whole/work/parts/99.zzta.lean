/-! the empty valley of the start: the class holds 0 where the reference holds -1, in rows that no question reads -/
noncomputable def sgS (S : zM) : zM := fun i y => zif ((i = 6 ∨ i = 7) ∧ 0 ≤ y ∧ y < 5) (-1) (S i y)
theorem sg_o {S : zM} {i y : Int} (h : i ≠ 6) (h2 : i ≠ 7) : sgS S i y = S i y := by
  unfold sgS; rw [zif_f (by omega)]
theorem sg_up {S : zM} {i j v : Int} (h : i ≠ 6) (h2 : i ≠ 7) : sgS (zup S i j v) = zup (sgS S) i j v := by
  funext x y
  by_cases c : x = 6 ∨ x = 7
  · rw [zup_a (by omega)]
    unfold sgS
    rw [zup_a (by omega)]
  · rw [sg_o (by omega) (by omega)]
    unfold zup
    by_cases c2 : x = i ∧ y = j ∧ x ≠ -1
    · rw [if_pos c2, if_pos c2]
    · rw [if_neg c2, if_neg c2, sg_o (by omega) (by omega)]
theorem okS_sg {S : zM} (h : okS S) : okS (sgS S) := by
  obtain ⟨h1, h2, h3, h4, h5, h6, h7, h8, h9, ha, hb⟩ := h
  have e0 : ∀ y, sgS S 0 y = S 0 y := fun y => sg_o (by decide) (by decide)
  have e1 : ∀ y, sgS S 1 y = S 1 y := fun y => sg_o (by decide) (by decide)
  have e2 : ∀ y, sgS S 2 y = S 2 y := fun y => sg_o (by decide) (by decide)
  have e3 : ∀ y, sgS S 3 y = S 3 y := fun y => sg_o (by decide) (by decide)
  have e4 : ∀ y, sgS S 4 y = S 4 y := fun y => sg_o (by decide) (by decide)
  have e5 : ∀ y, sgS S 5 y = S 5 y := fun y => sg_o (by decide) (by decide)
  have e8 : ∀ y, sgS S 8 y = S 8 y := fun y => sg_o (by decide) (by decide)
  unfold okS
  simp only [e0, e1, e2, e3, e4, e5, e8]
  refine ⟨h1, h2, h3, h4, h5, h6, h7, h8, fun k k0 k1 => ?_, fun k k0 k1 => ?_, hb⟩
  · unfold sgS
    rw [zif_t (by omega)]
    omega
  · unfold sgS
    rw [zif_t (by omega)]
    omega
theorem sPut_0 {S G : zM} (h : G 0 8 = 0) : sPut S G = false := by
  unfold sPut
  rw [h]
  rfl
/-- the valley is empty -/
def emV (M : zM) : Prop := M 30 6 = 0 ∧ M 30 7 = 0 ∧ M 30 8 = 0
/-- a state with no question put -/
def okTs (S G : zM) : Prop := okT S G ∧ ∀ k, 0 ≤ k → k < 5 → S 5 k = 0
def relEs (M : zM) : Prop := zrS M = sgS (zvS M 37) ∧ okTs (zvS M 37) (zvG M 30) ∧ M 199 78 = 0
def relFs (M : zM) : Prop := (0 ≤ M 0 13 ∧ M 0 13 ≤ 8) ∧ M 197 24 = M 0 13 ∧ okP M ∧ ∀ i, 0 ≤ i → i < M 0 13 → zsS M (51 * i) = sgS (zvS M (M 77 i)) ∧ okTs (zvS M (M 77 i)) (zvG M 30) ∧ M 202 (51 * i + 3) = 0
theorem emV_fr {M M' : zM} (h : emV M) (a : ∀ y, 6 ≤ y → y ≤ 8 → M' 30 y = M 30 y) : emV M' := by
  unfold emV
  rw [a 6 (by omega) (by omega), a 7 (by omega) (by omega), a 8 (by omega) (by omega)]
  exact h
theorem rel_keepS {M M' : zM} (hC : relC M) (hV : emV M) (hE : relEs M) (hF : relFs M) (h : ∀ x y, ((30 ≤ x ∧ x ≤ 45) ∨ x = 77 ∨ (81 ≤ x ∧ x ≤ 152) ∨ (x = 0 ∧ y = 13) ∨ (x = 199 ∧ y ≤ 125) ∨ (x = 197 ∧ y = 24) ∨ x = 202) → M' x y = M x y) : relC M' ∧ emV M' ∧ relEs M' ∧ relFs M' := by
  have eG : zvG M' 30 = zvG M 30 := zvG_eq (fun x y h1 h2 => h x y (by omega))
  have eS : zvS M' 37 = zvS M 37 := zvS_eq (fun x y h1 h2 => h x y (by omega))
  have eR : zrS M' = zrS M := zrS_eq (fun y h1 h2 h3 => h 199 y (by omega))
  have eQ : zrG M' = zrG M := zrG_eq (fun y h1 h2 => h 199 y (by omega))
  have e77 : ∀ i, M' 77 i = M 77 i := fun i => h 77 i (by omega)
  obtain ⟨f1, f2, f3, f4⟩ := hF
  refine ⟨⟨by rw [eG, eQ]; exact hC.1, by rw [eG]; exact hC.2⟩, emV_fr hV (fun y _ _ => h 30 y (by omega)), ⟨by rw [eR, eS]; exact hE.1, by rw [eS, eG]; exact hE.2.1, by rw [h 199 78 (by omega)]; exact hE.2.2⟩, by rw [h 0 13 (by omega)]; exact f1, by rw [h 0 13 (by omega), h 197 24 (by omega)]; exact f2, okP_eq e77 f3, fun i i0 i1 => ?_⟩
  rw [h 0 13 (by omega)] at i1
  obtain ⟨k1, k2, k3⟩ := f4 i i0 i1
  have hp := f3.1 i i0 (by omega)
  have eV : zvS M' (M 77 i) = zvS M (M 77 i) := zvS_eq (fun x y h1 h2 => h x y (by omega))
  have eZ : zsS M' (51 * i) = zsS M (51 * i) := zsS_eq (fun y h1 h2 => h 202 y (by omega))
  rw [e77, eV, eZ, h 202 _ (by omega), eG]
  exact ⟨k1, k2, k3⟩
theorem pair_doneS {M S' M1 M2 : zM} (hC : relC M) (hV : emV M) (hE : relEs M) (hF : relFs M) (hc : cDone M S' M1) (hr : rDone M1 (sgS S') 0 M2) (hok : okTs S' (zvG M 30)) : relC M2 ∧ emV M2 ∧ relEs M2 ∧ relFs M2 ∧ ∀ x y, ¬ zFA x y → M2 x y = M x y := by
  obtain ⟨c1, c2, c3, c4, c5, c6⟩ := hc
  obtain ⟨r1, r2, r3, r4, r5, r6, r7⟩ := hr
  obtain ⟨f1, f2, f3, f4⟩ := hF
  have fr : ∀ x y, ¬ zFA x y → M2 x y = M x y := fun x y h => by
    rw [r1 x y (fun z => h (Or.inr z)), c1 x y (fun z => h (Or.inl z))]
  have eG : zvG M2 30 = zvG M 30 := zvG_eq (fun x y h1 h2 => fr x y (by unfold zFA zFC zFR; omega))
  have eQ : zrG M2 = zrG M := zrG_eq (fun y h1 h2 => fr 199 y (by unfold zFA zFC zFR; omega))
  have eS : zvS M2 37 = S' := by
    rw [← c2]
    exact zvS_eq (fun x y h1 h2 => r1 x y (by unfold zFR; omega))
  have e13 : M2 0 13 = M1 0 13 := r1 0 13 (by unfold zFR; omega)
  have e77 : ∀ i, M2 77 i = M1 77 i := fun i => r1 77 i (by unfold zFR; omega)
  have e24 : M1 197 24 = M 0 13 := by rw [c1 197 24 (by unfold zFC; omega)]; exact f2
  have eR1 : zrS M1 = zrS M := zrS_eq (fun y h1 h2 h3 => c1 199 y (by unfold zFC; omega))
  have n1 : M2 197 24 = M1 0 13 := by rw [r4, c4, e24]
  have hn : M1 0 13 = if M 0 13 = 8 then 8 else M 0 13 + 1 := c4
  have hn2 : 1 ≤ M1 0 13 ∧ M1 0 13 ≤ 8 := by rw [hn]; split <;> omega
  refine ⟨⟨by rw [eG, eQ]; exact hC.1, by rw [eG]; exact hC.2⟩, emV_fr hV (fun y _ _ => fr 30 y (by unfold zFA zFC zFR; omega)), ⟨by rw [r2, eS], by rw [eS, eG]; exact hok, r3⟩, ⟨by rw [e13]; omega, by rw [n1, e13], okP_eq e77 c3, fun i i0 i1 => ?_⟩, fr⟩
  rw [e13] at i1
  have hp := c3.1 i i0 (by omega)
  have eV : zvS M2 (M1 77 i) = zvS M1 (M1 77 i) := zvS_eq (fun x y h1 h2 => r1 x y (by unfold zFR; omega))
  rw [e77, eV, eG]
  by_cases ci : i = M1 0 13 - 1
  · have e1 : zsS M2 (51 * i) = zrS M := by rw [ci, ← n1, r5, eR1]
    have e2 : M2 202 (51 * i + 3) = M 199 78 := by rw [ci, ← n1, r6, c1 199 78 (by unfold zFC; omega)]
    have e3 : zvS M1 (M1 77 i) = zvS M 37 := by rw [ci]; exact c5
    rw [e1, e2, e3]
    exact hE
  · obtain ⟨k1, k2⟩ := r7 i i0 (by omega)
    have hx : 0 ≤ (if M 0 13 = 8 then i + 1 else i) ∧ (if M 0 13 = 8 then i + 1 else i) < M 0 13 := by
      by_cases c : M 0 13 = 8
      · rw [if_pos c] at hn ⊢; omega
      · rw [if_neg c] at hn ⊢; omega
    obtain ⟨a1, a2, a3⟩ := f4 _ hx.1 hx.2
    rw [e24] at k1 k2
    have e4 : ∀ o, zsS M1 o = zsS M o := fun o => zsS_eq (fun y _ _ => c1 202 y (by unfold zFC; omega))
    rw [k1, k2, e4, c6 i i0 (by omega), c1 202 _ (by unfold zFC; omega)]
    exact ⟨a1, a2, a3⟩
def zPairDs (M : zM) (cc : zO) (rc : zM → zO) : Prop := ∃ v M1 M2, cc = some ((0, v, 0), M1) ∧ rc M1 = some ((0, v, 0), M2) ∧ relC M2 ∧ emV M2 ∧ relEs M2 ∧ relFs M2 ∧ ∀ x y, ¬ zFD x y → M2 x y = M x y
/-- an act of both, on the empty valley -/
theorem pair_actS {M : zM} {V : Prop} {W : Int} {S' : zM} {cc : zO} {rc : zM → zO} (hC : relC M) (hV : emV M) (hE : relEs M) (hF : relFs M)
    (hc : (¬ V → cc = some ((0, -1, 0), M)) ∧ (V → (W ≠ 0 → cc = some ((0, W, 0), cpS M 59 37)) ∧ (W = 0 → ∃ M', cc = some ((0, 0, 0), M') ∧ cDone M S' M')))
    (hr : ∀ M1, zrS M1 = sgS (zvS M 37) → zrG M1 = zvG M 30 → M1 199 78 = 0 → M1 197 24 = M 197 24 → (¬ V → rc M1 = some ((0, -1, 0), zup M1 197 0 0)) ∧ (V → (W ≠ 0 → rc M1 = some ((0, W, 0), zup M1 197 0 0)) ∧ (W = 0 → ∃ M', rc M1 = some ((0, 0, 0), M') ∧ rDone M1 (sgS S') 0 M')))
    (hok : V → W = 0 → okTs S' (zvG M 30)) : zPairDs M cc rc := by
  have keep : ∀ M1, (∀ x y, ¬ (59 ≤ x ∧ x ≤ 67) → M1 x y = M x y) → zrS M1 = sgS (zvS M 37) ∧ zrG M1 = zvG M 30 ∧ M1 199 78 = 0 ∧ M1 197 24 = M 197 24 ∧ (relC (zup M1 197 0 0) ∧ emV (zup M1 197 0 0) ∧ relEs (zup M1 197 0 0) ∧ relFs (zup M1 197 0 0)) ∧ ∀ x y, ¬ zFD x y → zup M1 197 0 0 x y = M x y := by
    intro M1 h
    refine ⟨?_, ?_, by rw [h _ _ (by omega)]; exact hE.2.2, h _ _ (by omega), rel_keepS hC hV hE hF (fun x y hx => ?_), fun x y hx => ?_⟩
    · rw [zrS_eq (M := M) (fun y _ _ _ => h 199 y (by omega))]; exact hE.1
    · rw [zrG_eq (M := M) (fun y _ _ => h 199 y (by omega))]; exact hC.1
    · have : zup M1 197 0 0 x y = M1 x y := by unfold zup; rw [if_neg (by omega)]
      rw [this, h x y (by omega)]
    · unfold zFD zFA zFC zFR at hx
      have : zup M1 197 0 0 x y = M1 x y := by unfold zup; rw [if_neg (by omega)]
      rw [this, h x y (by omega)]
  have kM := keep M (fun _ _ _ => rfl)
  have kP := keep (cpS M 59 37) (fun x y h => cpS_o (by omega))
  by_cases hv : V
  · by_cases hw : W = 0
    · obtain ⟨M1, h1, h2⟩ := (hc.2 hv).2 hw
      have e1 : zrS M1 = sgS (zvS M 37) := by rw [zrS_eq (M := M) (fun y _ _ _ => h2.1 199 y (by unfold zFC; omega))]; exact hE.1
      have e2 : zrG M1 = zvG M 30 := by rw [zrG_eq (M := M) (fun y _ _ => h2.1 199 y (by unfold zFC; omega))]; exact hC.1
      obtain ⟨M2, h3, h4⟩ := ((hr M1 e1 e2 (by rw [h2.1 199 78 (by unfold zFC; omega)]; exact hE.2.2) (h2.1 197 24 (by unfold zFC; omega))).2 hv).2 hw
      obtain ⟨p1, p2, p3, p4, p5⟩ := pair_doneS hC hV hE hF h2 h4 (hok hv hw)
      exact ⟨0, M1, M2, h1, h3, p1, p2, p3, p4, fun x y h => p5 x y (fun z => h (Or.inl z))⟩
    · obtain ⟨p1, p2, p3, p4, ⟨p5, p6, p7, p7'⟩, p8⟩ := kP
      exact ⟨W, cpS M 59 37, _, (hc.2 hv).1 hw, ((hr _ p1 p2 p3 p4).2 hv).1 hw, p5, p6, p7, p7', p8⟩
  · obtain ⟨p1, p2, p3, p4, ⟨p5, p6, p7, p7'⟩, p8⟩ := kM
    exact ⟨-1, M, _, hc.1 hv, (hr _ p1 p2 p3 p4).1 hv, p5, p6, p7, p7', p8⟩
/-- what an act of the reference wants, on the empty valley -/
theorem rS_pre {M M1 : zM} (hC : relC M) (hV : emV M) (hE : relEs M) (hF : relFs M) (e1 : zrS M1 = sgS (zvS M 37)) (e2 : zrG M1 = zvG M 30) (e3 : M1 199 78 = 0) (e4 : M1 197 24 = M 197 24) : okS (zrS M1) ∧ okG (zrG M1) ∧ M1 199 78 = zfl (sPut (zrS M1) (zrG M1)) ∧ 0 ≤ M1 197 24 ∧ M1 197 24 ≤ 8 ∧ M1 199 1 = 0 ∧ M1 199 2 = 0 := by
  obtain ⟨v1, v2, v3⟩ := hV
  obtain ⟨⟨f0, f1⟩, f2, -⟩ := hF
  refine ⟨by rw [e1]; exact okS_sg hE.2.1.1.1, by rw [e2]; exact hC.2, ?_, by rw [e4, f2]; exact f0, by rw [e4, f2]; exact f1, by rw [← zrG_07 (M := M1), e2, zvG_0 (by omega) (by omega)]; exact v2, by rw [← zrG_08 (M := M1), e2, zvG_0 (by omega) (by omega)]; exact v3⟩
  rw [e3, sPut_0 (by rw [e2, zvG_0 (by omega) (by omega)]; exact v3)]
  rfl
theorem pairS_no {M : zM} {V : Prop} {cc : zO} {rc : zM → zO} (hC : relC M) (hV : emV M) (hE : relEs M) (hF : relFs M) (hn : ¬ V) (hc : ¬ V → cc = some ((0, -1, 0), M)) (hr : ¬ V → rc M = some ((0, -1, 0), zup M 197 0 0)) : zPairQ M cc rc := ⟨-1, hc hn, hr hn⟩
theorem pairV_buy (d : Nat) (x0 z0 h y0 z1 n y1 z2 : Int) (M : zM) (hC : relC M) (hV : emV M) (hE : relEs M) (hF : relFs M) : zPairQ M (zEm true (d + 8) 11 [(29, 0, x0), (0, h, y0), (0, n, y1)] M) (fun M1 => zEm true (d + 8) 232 [(30, 197, z0), (0, h, z1), (0, n, z2)] M1) := by
  obtain ⟨p1, p2, p3, p4, p5, p6, p7⟩ := rS_pre hC hV hE hF hE.1 hC.1 hE.2.2 rfl
  have k := (r_buy d z0 h z1 n z2 M p1 p2 p3 p4 p5).1
  rw [p6] at k
  have hF2 := hF
  obtain ⟨⟨f0, f1⟩, f2, f3, -⟩ := hF2
  have c := (c_buy (d + 4) x0 h y0 n y1 M hC.2 f0 f1 f3).1
  rw [hV.2.1] at c
  exact ⟨-1, c (by omega), k (by omega)⟩
theorem pairV_strike (d : Nat) (x0 z0 h y0 z1 : Int) (M : zM) (hC : relC M) (hV : emV M) (hE : relEs M) (hF : relFs M) : zPairQ M (zEm true (d + 8) 12 [(29, 0, x0), (0, h, y0)] M) (fun M1 => zEm true (d + 8) 233 [(30, 197, z0), (0, h, z1)] M1) := by
  obtain ⟨p1, p2, p3, p4, p5, p6, p7⟩ := rS_pre hC hV hE hF hE.1 hC.1 hE.2.2 rfl
  have k := (r_strike d z0 h z1 M p1 p2 p3 p4 p5).1
  rw [p6] at k
  have hF2 := hF
  obtain ⟨⟨f0, f1⟩, f2, f3, -⟩ := hF2
  have c := (c_strike (d + 4) x0 h y0 M hC.2 f0 f1 f3).1
  rw [hV.2.1] at c
  exact ⟨-1, c (by omega), k (by omega)⟩
theorem pairV_work (d : Nat) (x0 z0 h y0 z1 : Int) (M : zM) (hC : relC M) (hV : emV M) (hE : relEs M) (hF : relFs M) : zPairQ M (zEm true (d + 8) 13 [(29, 0, x0), (0, h, y0)] M) (fun M1 => zEm true (d + 8) 234 [(30, 197, z0), (0, h, z1)] M1) := by
  obtain ⟨p1, p2, p3, p4, p5, p6, p7⟩ := rS_pre hC hV hE hF hE.1 hC.1 hE.2.2 rfl
  have k := (r_work d z0 h z1 M p1 p2 p3 p4 p5).1
  rw [p6] at k
  have hF2 := hF
  obtain ⟨⟨f0, f1⟩, f2, f3, -⟩ := hF2
  have c := (c_work (d + 4) x0 h y0 M hC.2 f0 f1 f3).1
  rw [hV.2.1] at c
  exact ⟨-1, c (by omega), k (by omega)⟩
theorem pairV_sway (d : Nat) (x0 z0 h y0 z1 q y1 z2 w y2 z3 : Int) (M : zM) (hC : relC M) (hV : emV M) (hE : relEs M) (hF : relFs M) : zPairQ M (zEm true (d + 8) 14 [(29, 0, x0), (0, h, y0), (0, q, y1), (0, w, y2)] M) (fun M1 => zEm true (d + 8) 235 [(30, 197, z0), (0, h, z1), (0, q, z2), (0, w, z3)] M1) := by
  obtain ⟨p1, p2, p3, p4, p5, p6, p7⟩ := rS_pre hC hV hE hF hE.1 hC.1 hE.2.2 rfl
  have k := (r_sway d z0 h z1 q z2 w z3 M p1 p2 p3 p4 p5).1
  rw [p6] at k
  have hF2 := hF
  obtain ⟨⟨f0, f1⟩, f2, f3, -⟩ := hF2
  have c := (c_sway (d + 3) x0 h y0 q y1 w y2 M hC.2 f0 f1 f3).1
  rw [hV.2.1] at c
  exact ⟨-1, c (by omega), k (by omega)⟩
theorem pairV_put (d : Nat) (x0 z0 q y0 z1 : Int) (M : zM) (hC : relC M) (hV : emV M) (hE : relEs M) (hF : relFs M) : zPairQ M (zEm true (d + 8) 15 [(29, 0, x0), (0, q, y0)] M) (fun M1 => zEm true (d + 8) 236 [(30, 197, z0), (0, q, z1)] M1) := by
  obtain ⟨p1, p2, p3, p4, p5, p6, p7⟩ := rS_pre hC hV hE hF hE.1 hC.1 hE.2.2 rfl
  have k := (r_put d z0 q z1 M p1 p2 p3 p4 p5).1
  rw [p7] at k
  have hF2 := hF
  obtain ⟨⟨f0, f1⟩, f2, f3, -⟩ := hF2
  have c := (c_put (d + 2) x0 q y0 M hC.2 f0 f1 f3).1
  rw [hV.2.2] at c
  exact ⟨-1, c (by omega), k (by omega)⟩
theorem pairV_lay (d : Nat) (x0 z0 w y0 z1 n y1 z2 : Int) (M : zM) (hC : relC M) (hV : emV M) (hE : relEs M) (hF : relFs M) : zPairDs M (zEm true (d + 8) 16 [(29, 0, x0), (0, w, y0), (0, n, y1)] M) (fun M1 => zEm true (d + 8) 237 [(30, 197, z0), (0, w, z1), (0, n, z2)] M1) := by
  have hF2 := hF
  obtain ⟨⟨f0, f1⟩, f2, f3, -⟩ := hF2
  refine pair_actS (V := (0 ≤ w ∧ w ≤ 1) ∧ 0 ≤ n ∧ n ≤ 20) (W := (if zvS M 37 8 w = n then (1 : Int) else 0)) (S' := zup (zvS M 37) 8 w n) hC hV hE hF (c_lay (d + 4) x0 w y0 n y1 M hC.2 f0 f1 f3) (fun M1 e1 e2 e3 e4 => ?_) (fun hv hw => ?_)
  · obtain ⟨p1, p2, p3, p4, p5, p6, p7⟩ := rS_pre hC hV hE hF e1 e2 e3 e4
    have k := r_lay d z0 w z1 n z2 M1 p1 p2 p3 p4 p5
    rw [e1] at k
    rw [sg_o (by decide) (by decide), ← sg_up (by decide) (by decide), e3] at k
    exact k
  · obtain ⟨c1, c2, c3⟩ := hv
    exact ⟨⟨okS_u8 hE.2.1.1.1 c2 c3, okH_row hE.2.1.1.2 (by omega) (by omega)⟩, fun k k0 k1 => by rw [zup_a (by omega)]; exact hE.2.1.2 k k0 k1⟩
theorem pairV_weather (d : Nat) (x0 z0 k y0 z1 : Int) (M : zM) (hC : relC M) (hV : emV M) (hE : relEs M) (hF : relFs M) : zPairDs M (zEm true (d + 8) 17 [(29, 0, x0), (0, k, y0)] M) (fun M1 => zEm true (d + 8) 238 [(30, 197, z0), (0, k, z1)] M1) := by
  have hF2 := hF
  obtain ⟨⟨f0, f1⟩, f2, f3, -⟩ := hF2
  refine pair_actS (V := 0 ≤ k ∧ k ≤ 2) (W := (if zvS M 37 0 9 = k then (1 : Int) else 0)) (S' := zup (zvS M 37) 0 9 k) hC hV hE hF (c_weather (d + 4) x0 k y0 M hC.2 f0 f1 f3) (fun M1 e1 e2 e3 e4 => ?_) (fun hv hw => ?_)
  · obtain ⟨p1, p2, p3, p4, p5, p6, p7⟩ := rS_pre hC hV hE hF e1 e2 e3 e4
    have q := r_weather d z0 k z1 M1 p1 p2 p3 p4 p5
    rw [e1] at q
    rw [sg_o (by decide) (by decide), ← sg_up (by decide) (by decide), e3] at q
    exact q
  · exact ⟨⟨okS_u09 hE.2.1.1.1 hv.1 hv.2, okH_row hE.2.1.1.2 (by omega) (by omega)⟩, fun j j0 j1 => by rw [zup_a (by omega)]; exact hE.2.1.2 j j0 j1⟩
