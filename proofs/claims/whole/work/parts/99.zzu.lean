/-! all relations in one, on either kind of valley; each call keeps them (genst.py) -/
def Rel (M : zM) : Prop := relA M ∧ relZ M ∧ relH M ∧ relI M ∧ relK M
theorem fA_fr {M M' : zM} (h : relA M) (a : ∀ x y, (x = 2 ∧ y = 1) ∨ x = 3 ∨ (x = 197 ∧ y = 2) ∨ x = 198 → M' x y = M x y) : relA M' := by
  obtain ⟨h1, h2, h3⟩ := h
  refine ⟨by rw [a 2 1 (by omega)]; exact h1, by rw [a 2 1 (by omega), a 197 2 (by omega)]; exact h2, fun i i0 i1 => ?_⟩
  rw [a 198 i (by omega), a 3 i (by omega)]
  exact h3 i i0 i1
theorem fD_fr {M M' : zM} (h : relD M) (a : ∀ x y, (30 ≤ x ∧ x ≤ 33) ∨ x = 204 → M' x y = M x y) : relD M' := by
  have r30 : M' 30 = M 30 := funext fun y => a _ _ (by omega)
  have r31 : M' 31 = M 31 := funext fun y => a _ _ (by omega)
  have r32 : M' 32 = M 32 := funext fun y => a _ _ (by omega)
  have r33 : M' 33 = M 33 := funext fun y => a _ _ (by omega)
  have r4 : M' 204 = M 204 := funext fun y => a _ _ (by omega)
  unfold relD
  rw [r30, r31, r32, r33, r4]
  exact h
theorem fG_fr {M M' : zM} (h : relG M) (a : ∀ x y, (46 ≤ x ∧ x ≤ 49) ∨ (x = 199 ∧ 126 ≤ y ∧ y < 368) → M' x y = M x y) : relG M' :=
  relN_eq h (a _ _ (by omega)) (a _ _ (by omega)) (fun j _ _ => a _ _ (by omega)) (fun j _ _ => a _ _ (by omega)) (fun j _ _ => a _ _ (by omega)) (fun j _ _ => a _ _ (by omega))
theorem fI_fr {M M' : zM} (h : relI M) (a : ∀ x y, (x = -1 ∧ y = 0) ∨ x = 54 ∨ x = 55 ∨ 220 ≤ x ∨ x = 215 ∨ (x = 197 ∧ y = 39) → M' x y = M x y) : relI M' := by
  obtain ⟨h1, h2, h3, h4, h5, h6, h7⟩ := h
  have r54 : M' 54 = M 54 := funext fun y => a _ _ (by omega)
  have r215 : M' 215 = M 215 := funext fun y => a _ _ (by omega)
  have rT : M' (M 54 0) = M (M 54 0) := funext fun y => a _ _ (by omega)
  unfold relI
  rw [r54, r215, rT, a (-1) 0 (by omega), a 197 39 (by omega)]
  exact ⟨h1, h2, h3, h4, h5, h6, h7⟩
theorem fK_fr {M M' : zM} (h : relK M) (a : ∀ x y, x = 78 ∨ (153 ≤ x ∧ x ≤ 196) ∨ x = 201 ∨ x = 206 ∨ x = 207 → M' x y = M x y) : relK M' := fun k k0 k1 =>
  relK1_fr (h k k0 k1) k0 k1 (a _ _ (by omega)) (fun x y h1 h2 => a _ _ (by omega)) (fun y _ _ => a _ _ (by omega)) (fun y _ _ => a _ _ (by omega)) (a _ _ (by omega))
theorem fH_fr {M M' : zM} (h : relH M) (a : ∀ x y, (x = 51 ∧ y ≠ 9) ∨ x = 52 ∨ x = 53 ∨ x = 210 ∨ x = 212 ∨ x = 217 ∨ (x = 197 ∧ (y = 10 ∨ y = 25 ∨ y = 26 ∨ y = 29 ∨ y = 33 ∨ y = 36 ∨ y = 37 ∨ y = 44)) → M' x y = M x y) : relH M' := by
  have e := h.1
  have r52 : M' 52 = M 52 := funext fun i => a _ _ (by omega)
  have r53 : M' 53 = M 53 := funext fun i => a _ _ (by omega)
  have r210 : M' 210 = M 210 := funext fun i => a _ _ (by omega)
  have r212 : M' 212 = M 212 := funext fun i => a _ _ (by omega)
  have r217 : M' 217 = M 217 := funext fun i => a _ _ (by omega)
  have r51 : ∀ y, y ≠ 9 → M' 51 y = M 51 y := fun y h => a _ _ (by omega)
  unfold relH
  rw [r52, r53, r210, r212, r217, r51 0 (by omega), r51 1 (by omega), r51 2 (by omega), r51 4 (by omega), r51 6 (by omega), r51 7 (by omega), r51 8 (by omega), r51 10 (by omega), r51 11 (by omega), r51 12 (by omega), r51 13 (by omega), r51 14 (by omega), a 197 10 (by omega), a 197 25 (by omega), a 197 26 (by omega), a 197 29 (by omega), a 197 33 (by omega), a 197 36 (by omega), a 197 37 (by omega), a 197 44 (by omega)]
  exact h
theorem fP_fr {M M' : zM} (a : ∀ x y, (x = -1 ∧ (y = 1 ∨ y = 2)) ∨ (x = 54 ∧ y = 1000) → M' x y = M x y) : zPot M M' := by
  unfold zPot
  rw [a (-1) 1 (by omega), a (-1) 2 (by omega), a 54 1000 (by omega)]
  exact ⟨Int.le_refl _, Int.le_refl _⟩
def zStep (M : zM) (cc : zO) (rc : zM → zO) : Prop := ∃ v M1 M2, cc = some ((0, v, 0), M1) ∧ rc M1 = some ((0, v, 0), M2) ∧ Rel M2 ∧ zPot M M2
theorem up_Q {M : zM} {cc : zO} {rc : zM → zO} (h : Rel M) (p : zPairQ M cc rc) : zStep M cc rc := by
  obtain ⟨hA, hZ, hH, hI, hK⟩ := h
  obtain ⟨v, h1, h2⟩ := p
  have f : ∀ x y, ¬ (x = 197 ∧ y = 0) → zup M 197 0 0 x y = M x y := fun x y z => zup_f z
  exact ⟨v, M, _, h1, h2, ⟨fA_fr hA (fun x y h => f x y (by omega)), relZ_fr hZ (fun x y h => f x y (by omega)), fH_fr hH (fun x y h => f x y (by omega)), fI_fr hI (fun x y h => f x y (by omega)), fK_fr hK (fun x y h => f x y (by omega))⟩, fP_fr (fun x y h => f x y (by omega))⟩
theorem up_D {M : zM} {cc : zO} {rc : zM → zO} (h : Rel M) (hD : relD M) (hG : relG M) (p : zPairD M cc rc) : zStep M cc rc := by
  obtain ⟨hA, hZ, hH, hI, hK⟩ := h
  obtain ⟨v, M1, M2, h1, h2, kC, kE, kF, f⟩ := p
  unfold zFD zFA zFC zFR at f
  exact ⟨v, M1, M2, h1, h2, ⟨fA_fr hA (fun x y h => f x y (by omega)), Or.inl ⟨relX_of kC kE (fD_fr hD (fun x y h => f x y (by omega))) (fG_fr hG (fun x y h => f x y (by omega))), kF⟩, fH_fr hH (fun x y h => f x y (by omega)), fI_fr hI (fun x y h => f x y (by omega)), fK_fr hK (fun x y h => f x y (by omega))⟩, fP_fr (fun x y h => f x y (by omega))⟩
theorem up_P {M : zM} {cc : zO} {rc : zM → zO} (h : Rel M) (hD : relD M) (hG : relG M) (p : zPair M cc rc) : zStep M cc rc := up_D h hD hG (zPairD_of p)
theorem up_Ds {M : zM} {cc : zO} {rc : zM → zO} (h : Rel M) (hD : relD M) (hG : relG M) (p : zPairDs M cc rc) : zStep M cc rc := by
  obtain ⟨hA, hZ, hH, hI, hK⟩ := h
  obtain ⟨v, M1, M2, h1, h2, kC, kV, kE, kF, f⟩ := p
  unfold zFD zFA zFC zFR at f
  exact ⟨v, M1, M2, h1, h2, ⟨fA_fr hA (fun x y h => f x y (by omega)), Or.inr ⟨relXs_of kC kV kE (fD_fr hD (fun x y h => f x y (by omega))) (fG_fr hG (fun x y h => f x y (by omega))), kF⟩, fH_fr hH (fun x y h => f x y (by omega)), fI_fr hI (fun x y h => f x y (by omega)), fK_fr hK (fun x y h => f x y (by omega))⟩, fP_fr (fun x y h => f x y (by omega))⟩
theorem up_H {M : zM} {cc : zO} {rc : zM → zO} (h : Rel M) (p : zPairH M cc rc) : zStep M cc rc := by
  obtain ⟨hA, hZ, hH, hI, hK⟩ := h
  obtain ⟨v, M1, M2, h1, h2, kH, f⟩ := p
  unfold zFH at f
  exact ⟨v, M1, M2, h1, h2, ⟨fA_fr hA (fun x y h => f x y (by omega)), relZ_fr hZ (fun x y h => f x y (by omega)), kH, fI_fr hI (fun x y h => f x y (by omega)), fK_fr hK (fun x y h => f x y (by omega))⟩, fP_fr (fun x y h => f x y (by omega))⟩
theorem up_HA {M : zM} {cc : zO} {rc : zM → zO} (h : Rel M) (p : zPairHA M cc rc) : zStep M cc rc := by
  obtain ⟨hA, hZ, hH, hI, hK⟩ := h
  obtain ⟨v, M1, M2, h1, h2, kH, kA, f⟩ := p
  unfold zFH zFT at f
  exact ⟨v, M1, M2, h1, h2, ⟨kA, relZ_fr hZ (fun x y h => f x y (by omega) (by omega)), kH, fI_fr hI (fun x y h => f x y (by omega) (by omega)), fK_fr hK (fun x y h => f x y (by omega) (by omega))⟩, fP_fr (fun x y h => f x y (by omega) (by omega))⟩
theorem up_T0 {M : zM} {cc : zO} {rc : zM → zO} (h : Rel M) (p : zPairT0 M cc rc) : zStep M cc rc := by
  obtain ⟨hA, hZ, hH, hI, hK⟩ := h
  obtain ⟨v, M1, M2, h1, h2, kA, f⟩ := p
  unfold zFT at f
  exact ⟨v, M1, M2, h1, h2, ⟨kA, relZ_fr hZ (fun x y h => f x y (by omega)), fH_fr hH (fun x y h => f x y (by omega)), fI_fr hI (fun x y h => f x y (by omega)), fK_fr hK (fun x y h => f x y (by omega))⟩, fP_fr (fun x y h => f x y (by omega))⟩
theorem up_I {M : zM} {cc : zO} {rc : zM → zO} (h : Rel M) (p : zPairI M cc rc) : zStep M cc rc := by
  obtain ⟨hA, hZ, hH, hI, hK⟩ := h
  obtain ⟨v, M1, M2, h1, h2, kI, f, kP⟩ := p
  unfold zFI zFY at f
  exact ⟨v, M1, M2, h1, h2, ⟨fA_fr hA (fun x y h => f x y (by omega)), relZ_fr hZ (fun x y h => f x y (by omega)), fH_fr hH (fun x y h => f x y (by omega)), kI, fK_fr hK (fun x y h => f x y (by omega))⟩, kP⟩
theorem up_S {M : zM} {cc : zO} {rc : zM → zO} (h : Rel M) (p : zPairS M cc rc) : zStep M cc rc := by
  obtain ⟨hA, hZ, hH, hI, hK⟩ := h
  obtain ⟨v, M1, M2, h1, h2, f⟩ := p
  unfold zFS at f
  exact ⟨v, M1, M2, h1, h2, ⟨fA_fr hA (fun x y h => f x y (by omega)), relZ_fr hZ (fun x y h => f x y (by omega)), fH_fr hH (fun x y h => f x y (by omega)), fI_fr hI (fun x y h => f x y (by omega)), fK_fr hK (fun x y h => f x y (by omega))⟩, fP_fr (fun x y h => f x y (by omega))⟩
theorem up_K {M : zM} {cc : zO} {rc : zM → zO} (h : Rel M) (p : zPairK M cc rc) : zStep M cc rc := by
  obtain ⟨hA, hZ, hH, hI, hK⟩ := h
  obtain ⟨v, M1, M2, h1, h2, kK, f⟩ := p
  unfold zFJ at f
  exact ⟨v, M1, M2, h1, h2, ⟨fA_fr hA (fun x y h => f x y (by omega)), relZ_fr hZ (fun x y h => f x y (by omega)), fH_fr hH (fun x y h => f x y (by omega)), fI_fr hI (fun x y h => f x y (by omega)), kK⟩, fP_fr (fun x y h => f x y (by omega))⟩
theorem up_X {M : zM} {cc : zO} {rc : zM → zO} (h : Rel M) (p : zPairXZ M cc rc) : zStep M cc rc := by
  obtain ⟨hA, hZ, hH, hI, hK⟩ := h
  obtain ⟨v, M1, M2, h1, h2, kZ, f⟩ := p
  unfold zFX at f
  exact ⟨v, M1, M2, h1, h2, ⟨fA_fr hA (fun x y h => f x y (by omega)), kZ, fH_fr hH (fun x y h => f x y (by omega)), fI_fr hI (fun x y h => f x y (by omega)), fK_fr hK (fun x y h => f x y (by omega))⟩, fP_fr (fun x y h => f x y (by omega))⟩
theorem up_V {M : zM} {cc : zO} {rc : zM → zO} (h : Rel M) (p : zPairVZ M cc rc) : zStep M cc rc := by
  obtain ⟨hA, hZ, hH, hI, hK⟩ := h
  obtain ⟨v, M1, M2, h1, h2, kA, kZ, kH, f⟩ := p
  unfold zVc zVr at f
  exact ⟨v, M1, M2, h1, h2, ⟨kA, kZ, kH, fI_fr hI (fun x y h => f x y (by omega)), fK_fr hK (fun x y h => f x y (by omega))⟩, fP_fr (fun x y h => f x y (by omega))⟩
theorem up_B {M : zM} {cc : zO} {rc : zM → zO} (h : Rel M) (hD : relD M) (hG : relG M) (p : zPairB M cc rc) : zStep M cc rc := by
  obtain ⟨hA, hZ, hH, hI, hK⟩ := h
  obtain ⟨v, M1, M2, h1, h2, kA, kC, kE, kF, kH, f⟩ := p
  unfold zFB zFD zFA zFC zFR at f
  exact ⟨v, M1, M2, h1, h2, ⟨kA, Or.inl ⟨relX_of kC kE (fD_fr hD (fun x y h => f x y (by omega))) (fG_fr hG (fun x y h => f x y (by omega))), kF⟩, kH, fI_fr hI (fun x y h => f x y (by omega)), fK_fr hK (fun x y h => f x y (by omega))⟩, fP_fr (fun x y h => f x y (by omega))⟩
theorem up_Bs {M : zM} {cc : zO} {rc : zM → zO} (h : Rel M) (hD : relD M) (hG : relG M) (p : zPairBs M cc rc) : zStep M cc rc := by
  obtain ⟨hA, hZ, hH, hI, hK⟩ := h
  obtain ⟨v, M1, M2, h1, h2, kA, kC, kV, kE, kF, kH, f⟩ := p
  unfold zFB zFD zFA zFC zFR at f
  exact ⟨v, M1, M2, h1, h2, ⟨kA, Or.inr ⟨relXs_of kC kV kE (fD_fr hD (fun x y h => f x y (by omega))) (fG_fr hG (fun x y h => f x y (by omega))), kF⟩, kH, fI_fr hI (fun x y h => f x y (by omega)), fK_fr hK (fun x y h => f x y (by omega))⟩, fP_fr (fun x y h => f x y (by omega))⟩
theorem up_Z {M : zM} {cc : zO} {rc : zM → zO} (h : Rel M) (p : zPairZ M cc rc) : zStep M cc rc := by
  obtain ⟨hA, hZ, hH, hI, hK⟩ := h
  obtain ⟨v, M1, M2, h1, h2, kA, kG, kH, f⟩ := p
  unfold zFZ at f
  refine ⟨v, M1, M2, h1, h2, ⟨kA, ?_, kH, fI_fr hI (fun x y h => f x y (by omega)), fK_fr hK (fun x y h => f x y (by omega))⟩, fP_fr (fun x y h => f x y (by omega))⟩
  rcases hZ with ⟨hX, hF⟩ | ⟨hX, hF⟩
  · obtain ⟨hC, hE, hD, -⟩ := relX_to hX
    obtain ⟨kC, kE, kF⟩ := rel_keep (M' := M2) hC hE hF (fun x y h => f x y (by omega))
    exact Or.inl ⟨relX_of kC kE (fD_fr hD (fun x y h => f x y (by omega))) kG, kF⟩
  · obtain ⟨hC, hV, hE, hD, -⟩ := relXs_to hX
    obtain ⟨kC, kV, kE, kF⟩ := rel_keepS (M' := M2) hC hV hE hF (fun x y h => f x y (by omega))
    exact Or.inr ⟨relXs_of kC kV kE (fD_fr hD (fun x y h => f x y (by omega))) kG, kF⟩
theorem st_feed (a1 a2 a3 a4 a5 : Int) {M : zM} (h : Rel M) : zStep M (zEm true 120 1 [(29, 0, 0), (0, a1, 0), (0, a2, 0), (0, a3, 0), (0, a4, 0), (0, a5, 0)] M) (fun M1 => zEm true 120 165 [(30, 197, 0), (0, a1, 0), (0, a2, 0), (0, a3, 0), (0, a4, 0), (0, a5, 0)] M1) := by
  obtain ⟨hA, hZ, hH, hI, hK⟩ := id h
  exact up_T0 h (pair_feed 112 0 0 a1 0 0 a2 0 0 a3 0 0 a4 0 0 a5 0 0 M hA)
theorem st_end (a1 : Int) {M : zM} (h : Rel M) : zStep M (zEm true 120 2 [(29, 0, 0), (0, a1, 0)] M) (fun M1 => zEm true 120 166 [(30, 197, 0), (0, a1, 0)] M1) := by
  obtain ⟨hA, hZ, hH, hI, hK⟩ := id h
  exact up_T0 h (pair_end 112 0 0 a1 0 0 M hA)
theorem st_valley {M : zM} (h : Rel M) : zStep M (zEm true 120 3 [(29, 0, 0)] M) (fun M1 => zEm true 120 203 [(30, 197, 0)] M1) := by
  obtain ⟨hA, hZ, hH, hI, hK⟩ := id h
  exact up_V h (pairK_valley 104 0 0 M hA hZ hH)
theorem st_fault {M : zM} (h : Rel M) : zStep M (zEm true 120 4 [(29, 0, 0)] M) (fun M1 => zEm true 120 204 [(30, 197, 0)] M1) := by
  obtain ⟨hA, hZ, hH, hI, hK⟩ := id h
  exact up_Q h (pair_fault 112 0 0 M hH)
theorem st_wants (a1 a2 : Int) {M : zM} (h : Rel M) : zStep M (zEm true 120 6 [(29, 0, 0), (0, a1, 0), (0, a2, 0)] M) (fun M1 => zEm true 120 217 [(30, 197, 0), (0, a1, 0), (0, a2, 0)] M1) := by
  obtain ⟨hA, hZ, hH, hI, hK⟩ := id h
  rcases hZ with ⟨hX, hF⟩ | ⟨hX, hF⟩
  · obtain ⟨hC, hE, hD, hG⟩ := relX_to hX
    exact up_Q h (pair_wants 112 0 0 a1 0 0 a2 0 0 M hC hE)
  · obtain ⟨hC, hV, hE, hD, hG⟩ := relXs_to hX
    exact up_Q h (pairV_wants 112 0 0 a1 0 0 a2 0 0 M hC hV)
theorem st_grants (a1 a2 : Int) {M : zM} (h : Rel M) : zStep M (zEm true 120 8 [(29, 0, 0), (0, a1, 0), (0, a2, 0)] M) (fun M1 => zEm true 120 219 [(30, 197, 0), (0, a1, 0), (0, a2, 0)] M1) := by
  obtain ⟨hA, hZ, hH, hI, hK⟩ := id h
  rcases hZ with ⟨hX, hF⟩ | ⟨hX, hF⟩
  · obtain ⟨hC, hE, hD, hG⟩ := relX_to hX
    exact up_Q h (pair_grants 112 0 0 a1 0 0 a2 0 0 M hC hE)
  · obtain ⟨hC, hV, hE, hD, hG⟩ := relXs_to hX
    exact up_Q h (pairV_grants 112 0 0 a1 0 0 a2 0 0 M hC hV)
theorem st_way (a1 a2 : Int) {M : zM} (h : Rel M) : zStep M (zEm true 120 9 [(29, 0, 0), (0, a1, 0), (0, a2, 0)] M) (fun M1 => zEm true 120 220 [(30, 197, 0), (0, a1, 0), (0, a2, 0)] M1) := by
  obtain ⟨hA, hZ, hH, hI, hK⟩ := id h
  rcases hZ with ⟨hX, hF⟩ | ⟨hX, hF⟩
  · obtain ⟨hC, hE, hD, hG⟩ := relX_to hX
    exact up_Q h (pair_way 112 0 0 a1 0 0 a2 0 0 M hC hE)
  · obtain ⟨hC, hV, hE, hD, hG⟩ := relXs_to hX
    exact up_Q h (pairV_way 112 0 0 a1 0 0 a2 0 0 M hC hE)
theorem st_now (a1 : Int) {M : zM} (h : Rel M) : zStep M (zEm true 120 10 [(29, 0, 0), (0, a1, 0)] M) (fun M1 => zEm true 120 222 [(30, 197, 0), (0, a1, 0)] M1) := by
  obtain ⟨hA, hZ, hH, hI, hK⟩ := id h
  rcases hZ with ⟨hX, hF⟩ | ⟨hX, hF⟩
  · obtain ⟨hC, hE, hD, hG⟩ := relX_to hX
    exact up_Q h (pair_now 112 0 0 a1 0 0 M hC hE)
  · obtain ⟨hC, hV, hE, hD, hG⟩ := relXs_to hX
    exact up_Q h (pairV_now 112 0 0 a1 0 0 M hC hV hE)
theorem st_buy (a1 a2 : Int) {M : zM} (h : Rel M) : zStep M (zEm true 120 11 [(29, 0, 0), (0, a1, 0), (0, a2, 0)] M) (fun M1 => zEm true 120 232 [(30, 197, 0), (0, a1, 0), (0, a2, 0)] M1) := by
  obtain ⟨hA, hZ, hH, hI, hK⟩ := id h
  rcases hZ with ⟨hX, hF⟩ | ⟨hX, hF⟩
  · obtain ⟨hC, hE, hD, hG⟩ := relX_to hX
    exact up_P h hD hG (pair_buy 112 0 0 a1 0 0 a2 0 0 M hC hE hF)
  · obtain ⟨hC, hV, hE, hD, hG⟩ := relXs_to hX
    exact up_Q h (pairV_buy 112 0 0 a1 0 0 a2 0 0 M hC hV hE hF)
theorem st_strike (a1 : Int) {M : zM} (h : Rel M) : zStep M (zEm true 120 12 [(29, 0, 0), (0, a1, 0)] M) (fun M1 => zEm true 120 233 [(30, 197, 0), (0, a1, 0)] M1) := by
  obtain ⟨hA, hZ, hH, hI, hK⟩ := id h
  rcases hZ with ⟨hX, hF⟩ | ⟨hX, hF⟩
  · obtain ⟨hC, hE, hD, hG⟩ := relX_to hX
    exact up_P h hD hG (pair_strike 112 0 0 a1 0 0 M hC hE hF)
  · obtain ⟨hC, hV, hE, hD, hG⟩ := relXs_to hX
    exact up_Q h (pairV_strike 112 0 0 a1 0 0 M hC hV hE hF)
theorem st_work (a1 : Int) {M : zM} (h : Rel M) : zStep M (zEm true 120 13 [(29, 0, 0), (0, a1, 0)] M) (fun M1 => zEm true 120 234 [(30, 197, 0), (0, a1, 0)] M1) := by
  obtain ⟨hA, hZ, hH, hI, hK⟩ := id h
  rcases hZ with ⟨hX, hF⟩ | ⟨hX, hF⟩
  · obtain ⟨hC, hE, hD, hG⟩ := relX_to hX
    exact up_P h hD hG (pair_work 112 0 0 a1 0 0 M hC hE hF)
  · obtain ⟨hC, hV, hE, hD, hG⟩ := relXs_to hX
    exact up_Q h (pairV_work 112 0 0 a1 0 0 M hC hV hE hF)
theorem st_sway (a1 a2 a3 : Int) {M : zM} (h : Rel M) : zStep M (zEm true 120 14 [(29, 0, 0), (0, a1, 0), (0, a2, 0), (0, a3, 0)] M) (fun M1 => zEm true 120 235 [(30, 197, 0), (0, a1, 0), (0, a2, 0), (0, a3, 0)] M1) := by
  obtain ⟨hA, hZ, hH, hI, hK⟩ := id h
  rcases hZ with ⟨hX, hF⟩ | ⟨hX, hF⟩
  · obtain ⟨hC, hE, hD, hG⟩ := relX_to hX
    exact up_P h hD hG (pair_sway 112 0 0 a1 0 0 a2 0 0 a3 0 0 M hC hE hF)
  · obtain ⟨hC, hV, hE, hD, hG⟩ := relXs_to hX
    exact up_Q h (pairV_sway 112 0 0 a1 0 0 a2 0 0 a3 0 0 M hC hV hE hF)
theorem st_put (a1 : Int) {M : zM} (h : Rel M) : zStep M (zEm true 120 15 [(29, 0, 0), (0, a1, 0)] M) (fun M1 => zEm true 120 236 [(30, 197, 0), (0, a1, 0)] M1) := by
  obtain ⟨hA, hZ, hH, hI, hK⟩ := id h
  rcases hZ with ⟨hX, hF⟩ | ⟨hX, hF⟩
  · obtain ⟨hC, hE, hD, hG⟩ := relX_to hX
    exact up_P h hD hG (pair_put 112 0 0 a1 0 0 M hC hE hF)
  · obtain ⟨hC, hV, hE, hD, hG⟩ := relXs_to hX
    exact up_Q h (pairV_put 112 0 0 a1 0 0 M hC hV hE hF)
theorem st_lay (a1 a2 : Int) {M : zM} (h : Rel M) : zStep M (zEm true 120 16 [(29, 0, 0), (0, a1, 0), (0, a2, 0)] M) (fun M1 => zEm true 120 237 [(30, 197, 0), (0, a1, 0), (0, a2, 0)] M1) := by
  obtain ⟨hA, hZ, hH, hI, hK⟩ := id h
  rcases hZ with ⟨hX, hF⟩ | ⟨hX, hF⟩
  · obtain ⟨hC, hE, hD, hG⟩ := relX_to hX
    exact up_P h hD hG (pair_lay 112 0 0 a1 0 0 a2 0 0 M hC hE hF)
  · obtain ⟨hC, hV, hE, hD, hG⟩ := relXs_to hX
    exact up_Ds h hD hG (pairV_lay 112 0 0 a1 0 0 a2 0 0 M hC hV hE hF)
theorem st_weather (a1 : Int) {M : zM} (h : Rel M) : zStep M (zEm true 120 17 [(29, 0, 0), (0, a1, 0)] M) (fun M1 => zEm true 120 238 [(30, 197, 0), (0, a1, 0)] M1) := by
  obtain ⟨hA, hZ, hH, hI, hK⟩ := id h
  rcases hZ with ⟨hX, hF⟩ | ⟨hX, hF⟩
  · obtain ⟨hC, hE, hD, hG⟩ := relX_to hX
    exact up_P h hD hG (pair_weather 112 0 0 a1 0 0 M hC hE hF)
  · obtain ⟨hC, hV, hE, hD, hG⟩ := relXs_to hX
    exact up_Ds h hD hG (pairV_weather 112 0 0 a1 0 0 M hC hV hE hF)
theorem st_days (a1 : Int) {M : zM} (h : Rel M) : zStep M (zEm true 120 18 [(29, 0, 0), (0, a1, 0)] M) (fun M1 => zEm true 120 242 [(30, 197, 0), (0, a1, 0)] M1) := by
  obtain ⟨hA, hZ, hH, hI, hK⟩ := id h
  rcases hZ with ⟨hX, hF⟩ | ⟨hX, hF⟩
  · obtain ⟨hC, hE, hD, hG⟩ := relX_to hX
    exact up_D h hD hG (pair_days 112 0 0 a1 0 0 M hC hE hF)
  · obtain ⟨hC, hV, hE, hD, hG⟩ := relXs_to hX
    exact up_Ds h hD hG (pairV_days 112 0 0 a1 0 0 M hC hV hE hF)
theorem st_undo {M : zM} (h : Rel M) : zStep M (zEm true 120 19 [(29, 0, 0)] M) (fun M1 => zEm true 120 239 [(30, 197, 0)] M1) := by
  obtain ⟨hA, hZ, hH, hI, hK⟩ := id h
  rcases hZ with ⟨hX, hF⟩ | ⟨hX, hF⟩
  · obtain ⟨hC, hE, hD, hG⟩ := relX_to hX
    exact up_P h hD hG (pair_undo 112 0 0 M hC hE hF)
  · obtain ⟨hC, hV, hE, hD, hG⟩ := relXs_to hX
    exact up_Ds h hD hG (pairV_undo 112 0 0 M hC hV hE hF)
theorem st_noise (a1 a2 : Int) {M : zM} (h : Rel M) : zStep M (zEm true 120 20 [(29, 0, 0), (0, a1, 0), (0, a2, 0)] M) (fun M1 => zEm true 120 243 [(30, 197, 0), (0, a1, 0), (0, a2, 0)] M1) := by
  obtain ⟨hA, hZ, hH, hI, hK⟩ := id h
  rcases hZ with ⟨hX, hF⟩ | ⟨hX, hF⟩
  · obtain ⟨hC, hE, hD, hG⟩ := relX_to hX
    exact up_Q h (pair_noise 112 0 0 a1 0 0 a2 0 0 M hC hE)
  · obtain ⟨hC, hV, hE, hD, hG⟩ := relXs_to hX
    exact up_Q h (pairV_noise 112 0 0 a1 0 0 a2 0 0 M hC hV)
theorem st_would (a1 : Int) {M : zM} (h : Rel M) : zStep M (zEm true 120 21 [(29, 0, 0), (0, a1, 0)] M) (fun M1 => zEm true 120 244 [(30, 197, 0), (0, a1, 0)] M1) := by
  obtain ⟨hA, hZ, hH, hI, hK⟩ := id h
  rcases hZ with ⟨hX, hF⟩ | ⟨hX, hF⟩
  · obtain ⟨hC, hE, hD, hG⟩ := relX_to hX
    exact up_Q h (pair_would 112 0 0 a1 0 0 M hC hE)
  · obtain ⟨hC, hV, hE, hD, hG⟩ := relXs_to hX
    exact up_Q h (pairV_would 112 0 0 a1 0 0 M hC hV)
theorem st_win (a1 : Int) {M : zM} (h : Rel M) : zStep M (zEm true 120 22 [(29, 0, 0), (0, a1, 0)] M) (fun M1 => zEm true 120 245 [(30, 197, 0), (0, a1, 0)] M1) := by
  obtain ⟨hA, hZ, hH, hI, hK⟩ := id h
  rcases hZ with ⟨hX, hF⟩ | ⟨hX, hF⟩
  · obtain ⟨hC, hE, hD, hG⟩ := relX_to hX
    exact up_H h (pair_win 112 0 0 a1 0 0 M hC hE hF hH)
  · obtain ⟨hC, hV, hE, hD, hG⟩ := relXs_to hX
    exact up_Q h (pairV_win 112 0 0 a1 0 0 M hC hV hE)
theorem st_won {M : zM} (h : Rel M) : zStep M (zEm true 120 23 [(29, 0, 0)] M) (fun M1 => zEm true 120 246 [(30, 197, 0)] M1) := by
  obtain ⟨hA, hZ, hH, hI, hK⟩ := id h
  exact up_Q h (pair_won 112 0 0 M hH)
theorem st_winStreets (a1 : Int) {M : zM} (h : Rel M) : zStep M (zEm true 120 24 [(29, 0, 0), (0, a1, 0)] M) (fun M1 => zEm true 120 248 [(30, 197, 0), (0, a1, 0)] M1) := by
  obtain ⟨hA, hZ, hH, hI, hK⟩ := id h
  rcases hZ with ⟨hX, hF⟩ | ⟨hX, hF⟩
  · obtain ⟨hC, hE, hD, hG⟩ := relX_to hX
    exact up_H h (pair_winStreets 112 0 0 a1 0 0 M hC hE hF hH)
  · obtain ⟨hC, hV, hE, hD, hG⟩ := relXs_to hX
    exact up_Q h (pairV_winStreets 112 0 0 a1 0 0 M hC hV hE)
theorem st_wonStreets {M : zM} (h : Rel M) : zStep M (zEm true 120 25 [(29, 0, 0)] M) (fun M1 => zEm true 120 249 [(30, 197, 0)] M1) := by
  obtain ⟨hA, hZ, hH, hI, hK⟩ := id h
  exact up_Q h (pair_wonStreets 112 0 0 M hH)
theorem st_sanded (a1 : Int) {M : zM} (h : Rel M) : zStep M (zEm true 120 26 [(29, 0, 0), (0, a1, 0)] M) (fun M1 => zEm true 120 250 [(30, 197, 0), (0, a1, 0)] M1) := by
  obtain ⟨hA, hZ, hH, hI, hK⟩ := id h
  rcases hZ with ⟨hX, hF⟩ | ⟨hX, hF⟩
  · obtain ⟨hC, hE, hD, hG⟩ := relX_to hX
    exact up_H h (pair_sanded 112 0 0 a1 0 0 M hC hE hF hH)
  · obtain ⟨hC, hV, hE, hD, hG⟩ := relXs_to hX
    exact up_H h (pairV_sanded 112 0 0 a1 0 0 M hC hV hE hH)
theorem st_bought (a1 : Int) {M : zM} (h : Rel M) : zStep M (zEm true 120 27 [(29, 0, 0), (0, a1, 0)] M) (fun M1 => zEm true 120 254 [(30, 197, 0), (0, a1, 0)] M1) := by
  obtain ⟨hA, hZ, hH, hI, hK⟩ := id h
  rcases hZ with ⟨hX, hF⟩ | ⟨hX, hF⟩
  · obtain ⟨hC, hE, hD, hG⟩ := relX_to hX
    exact up_H h (pair_bought 112 0 0 a1 0 0 M hC hE hF hH)
  · obtain ⟨hC, hV, hE, hD, hG⟩ := relXs_to hX
    exact up_Q h (pairV_bought 112 0 0 a1 0 0 M hC hV hE)
theorem st_buys (a1 : Int) {M : zM} (h : Rel M) : zStep M (zEm true 120 28 [(29, 0, 0), (0, a1, 0)] M) (fun M1 => zEm true 120 255 [(30, 197, 0), (0, a1, 0)] M1) := by
  obtain ⟨hA, hZ, hH, hI, hK⟩ := id h
  exact up_Q h (pair_buys 112 0 0 a1 0 0 M hH)
theorem st_agenda {M : zM} (h : Rel M) : zStep M (zEm true 120 29 [(29, 0, 0)] M) (fun M1 => zEm true 120 257 [(30, 197, 0)] M1) := by
  obtain ⟨hA, hZ, hH, hI, hK⟩ := id h
  rcases hZ with ⟨hX, hF⟩ | ⟨hX, hF⟩
  · obtain ⟨hC, hE, hD, hG⟩ := relX_to hX
    exact up_H h (pair_agenda 102 0 0 M hC hE hH)
  · obtain ⟨hC, hV, hE, hD, hG⟩ := relXs_to hX
    exact up_H h (pairV_agenda 102 0 0 M hC hV hE hH)
theorem st_agendaAt (a1 : Int) {M : zM} (h : Rel M) : zStep M (zEm true 120 30 [(29, 0, 0), (0, a1, 0)] M) (fun M1 => zEm true 120 258 [(30, 197, 0), (0, a1, 0)] M1) := by
  obtain ⟨hA, hZ, hH, hI, hK⟩ := id h
  exact up_Q h (pair_agendaAt 112 0 0 a1 0 0 M hH)
theorem st_power (a1 : Int) {M : zM} (h : Rel M) : zStep M (zEm true 120 31 [(29, 0, 0), (0, a1, 0)] M) (fun M1 => zEm true 120 259 [(30, 197, 0), (0, a1, 0)] M1) := by
  obtain ⟨hA, hZ, hH, hI, hK⟩ := id h
  rcases hZ with ⟨hX, hF⟩ | ⟨hX, hF⟩
  · obtain ⟨hC, hE, hD, hG⟩ := relX_to hX
    exact up_Q h (pair_power 112 0 0 a1 0 0 M hC hE)
  · obtain ⟨hC, hV, hE, hD, hG⟩ := relXs_to hX
    exact up_Q h (pairV_power 112 0 0 a1 0 0 M hC hV hE)
theorem st_heard {M : zM} (h : Rel M) : zStep M (zEm true 120 32 [(29, 0, 0)] M) (fun M1 => zEm true 120 260 [(30, 197, 0)] M1) := by
  obtain ⟨hA, hZ, hH, hI, hK⟩ := id h
  rcases hZ with ⟨hX, hF⟩ | ⟨hX, hF⟩
  · obtain ⟨hC, hE, hD, hG⟩ := relX_to hX
    exact up_HA h (pair_heard 112 0 0 M hA hC hE hH)
  · obtain ⟨hC, hV, hE, hD, hG⟩ := relXs_to hX
    exact up_HA h (pairV_heard 112 0 0 M hA hC hV hE hH)
theorem st_surely {M : zM} (h : Rel M) : zStep M (zEm true 120 33 [(29, 0, 0)] M) (fun M1 => zEm true 120 261 [(30, 197, 0)] M1) := by
  obtain ⟨hA, hZ, hH, hI, hK⟩ := id h
  exact up_Q h (pair_surely 112 0 0 M hH)
theorem st_ask {M : zM} (h : Rel M) : zStep M (zEm true 120 34 [(29, 0, 0)] M) (fun M1 => zEm true 120 262 [(30, 197, 0)] M1) := by
  obtain ⟨hA, hZ, hH, hI, hK⟩ := id h
  exact up_Q h (pair_ask 112 0 0 M hH)
theorem st_crier (a1 : Int) {M : zM} (h : Rel M) : zStep M (zEm true 120 35 [(29, 0, 0), (0, a1, 0)] M) (fun M1 => zEm true 120 267 [(30, 197, 0), (0, a1, 0)] M1) := by
  obtain ⟨hA, hZ, hH, hI, hK⟩ := id h
  rcases hZ with ⟨hX, hF⟩ | ⟨hX, hF⟩
  · obtain ⟨hC, hE, hD, hG⟩ := relX_to hX
    exact up_I h (pair_crier 108 0 0 a1 0 0 M hC hE hD hI)
  · obtain ⟨hC, hV, hE, hD, hG⟩ := relXs_to hX
    exact up_Q h (pairV_crier 108 0 0 a1 0 0 M hC hV)
theorem st_byteAt (a1 : Int) {M : zM} (h : Rel M) : zStep M (zEm true 120 36 [(29, 0, 0), (0, a1, 0)] M) (fun M1 => zEm true 120 268 [(30, 197, 0), (0, a1, 0)] M1) := by
  obtain ⟨hA, hZ, hH, hI, hK⟩ := id h
  exact up_Q h (pair_byteAt 112 0 0 a1 0 0 M hI)
theorem st_drawn (a1 a2 : Int) {M : zM} (h : Rel M) : zStep M (zEm true 120 37 [(29, 0, 0), (0, a1, 0), (0, a2, 0)] M) (fun M1 => zEm true 120 271 [(30, 197, 0), (0, a1, 0), (0, a2, 0)] M1) := by
  obtain ⟨hA, hZ, hH, hI, hK⟩ := id h
  rcases hZ with ⟨hX, hF⟩ | ⟨hX, hF⟩
  · obtain ⟨hC, hE, hD, hG⟩ := relX_to hX
    exact up_D h hD hG (pair_drawn 112 0 0 a1 0 0 a2 0 0 M hC hE hF)
  · obtain ⟨hC, hV, hE, hD, hG⟩ := relXs_to hX
    exact up_Q h (pairV_drawn 112 0 0 a1 0 0 a2 0 0 M hC hV)
theorem st_odds (a1 a2 a3 : Int) {M : zM} (h : Rel M) : zStep M (zEm true 120 38 [(29, 0, 0), (0, a1, 0), (0, a2, 0), (0, a3, 0)] M) (fun M1 => zEm true 120 274 [(30, 197, 0), (0, a1, 0), (0, a2, 0), (0, a3, 0)] M1) := by
  obtain ⟨hA, hZ, hH, hI, hK⟩ := id h
  rcases hZ with ⟨hX, hF⟩ | ⟨hX, hF⟩
  · obtain ⟨hC, hE, hD, hG⟩ := relX_to hX
    exact up_D h hD hG (pair_odds 111 0 0 a1 0 0 a2 0 0 a3 0 0 M hC hE hF)
  · obtain ⟨hC, hV, hE, hD, hG⟩ := relXs_to hX
    exact up_Q h (pairV_odds 111 0 0 a1 0 0 a2 0 0 a3 0 0 M hC hV)
theorem st_book (a1 : Int) {M : zM} (h : Rel M) : zStep M (zEm true 120 39 [(29, 0, 0), (0, a1, 0)] M) (fun M1 => zEm true 120 283 [(30, 197, 0), (0, a1, 0)] M1) := by
  obtain ⟨hA, hZ, hH, hI, hK⟩ := id h
  rcases hZ with ⟨hX, hF⟩ | ⟨hX, hF⟩
  · obtain ⟨hC, hE, hD, hG⟩ := relX_to hX
    exact up_B h hD hG (pair_book 100 0 0 a1 0 0 M hA hC hE hD hF hH)
  · obtain ⟨hC, hV, hE, hD, hG⟩ := relXs_to hX
    exact up_Bs h hD hG (pairV_book 100 0 0 a1 0 0 M hA hC hV hE hD hF hH)
theorem st_told (a1 : Int) {M : zM} (h : Rel M) : zStep M (zEm true 120 40 [(29, 0, 0), (0, a1, 0)] M) (fun M1 => zEm true 120 285 [(30, 197, 0), (0, a1, 0)] M1) := by
  obtain ⟨hA, hZ, hH, hI, hK⟩ := id h
  exact up_Q h (pair_told 112 0 0 a1 0 0 M hH)
theorem st_sentence {M : zM} (h : Rel M) : zStep M (zEm true 120 41 [(29, 0, 0)] M) (fun M1 => zEm true 120 294 [(30, 197, 0)] M1) := by
  obtain ⟨hA, hZ, hH, hI, hK⟩ := id h
  rcases hZ with ⟨hX, hF⟩ | ⟨hX, hF⟩
  · obtain ⟨hC, hE, hD, hG⟩ := relX_to hX
    exact up_Z h (pair_sentence 74 0 0 M hA hC hD hG hH)
  · obtain ⟨hC, hV, hE, hD, hG⟩ := relXs_to hX
    exact up_Z h (pair_sentence 74 0 0 M hA hC hD hG hH)
theorem st_said (a1 : Int) {M : zM} (h : Rel M) : zStep M (zEm true 120 42 [(29, 0, 0), (0, a1, 0)] M) (fun M1 => zEm true 120 296 [(30, 197, 0), (0, a1, 0)] M1) := by
  obtain ⟨hA, hZ, hH, hI, hK⟩ := id h
  rcases hZ with ⟨hX, hF⟩ | ⟨hX, hF⟩
  · obtain ⟨hC, hE, hD, hG⟩ := relX_to hX
    exact up_S h (pair_said 20 0 0 a1 0 0 M hC hE hG)
  · obtain ⟨hC, hV, hE, hD, hG⟩ := relXs_to hX
    exact up_S h (pairV_said 20 0 0 a1 0 0 M hC hV hE hG)
theorem st_image (a1 : Int) {M : zM} (h : Rel M) : zStep M (zEm true 120 43 [(29, 0, 0), (0, a1, 0)] M) (fun M1 => zEm true 120 297 [(30, 197, 0), (0, a1, 0)] M1) := by
  obtain ⟨hA, hZ, hH, hI, hK⟩ := id h
  exact up_K h (pairK_image 112 0 0 a1 0 0 M (hZ.elim (fun z => Or.inl z.1) (fun z => Or.inr z.1)) hK)
theorem st_restore (a1 : Int) {M : zM} (h : Rel M) : zStep M (zEm true 120 44 [(29, 0, 0), (0, a1, 0)] M) (fun M1 => zEm true 120 298 [(30, 197, 0), (0, a1, 0)] M1) := by
  obtain ⟨hA, hZ, hH, hI, hK⟩ := id h
  exact up_X h (pairK_restore 112 0 0 a1 0 0 M hZ hK)
theorem st_count (a1 : Int) {M : zM} (h : Rel M) : zStep M (zEm true 120 45 [(29, 0, 0), (0, a1, 0)] M) (fun M1 => zEm true 120 299 [(30, 197, 0), (0, a1, 0)] M1) := by
  obtain ⟨hA, hZ, hH, hI, hK⟩ := id h
  rcases hZ with ⟨hX, hF⟩ | ⟨hX, hF⟩
  · obtain ⟨hC, hE, hD, hG⟩ := relX_to hX
    exact up_Q h (pair_count 112 0 0 a1 0 0 M hA hC)
  · obtain ⟨hC, hV, hE, hD, hG⟩ := relXs_to hX
    exact up_Q h (pair_count 112 0 0 a1 0 0 M hA hC)
