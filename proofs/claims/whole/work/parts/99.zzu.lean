/-! all relations in one; each call keeps it -/
def Rel (M : zM) : Prop := relA M ∧ relC M ∧ relE M ∧ relD M ∧ relG M ∧ relF M ∧ relH M ∧ relI M ∧ relJ M
theorem fA_fr {M M' : zM} (h : relA M) (a : ∀ x y, (x = 2 ∧ y = 1) ∨ x = 3 ∨ (x = 197 ∧ y = 2) ∨ x = 198 → M' x y = M x y) : relA M' := by
  obtain ⟨h1, h2, h3⟩ := h
  refine ⟨by rw [a 2 1 (by omega)]; exact h1, by rw [a 2 1 (by omega), a 197 2 (by omega)]; exact h2, fun i i0 i1 => ?_⟩
  rw [a 198 i (by omega), a 3 i (by omega)]
  exact h3 i i0 i1
theorem fD_fr {M M' : zM} (h : relD M) (a : ∀ x y, (30 ≤ x ∧ x ≤ 33) ∨ x = 204 → M' x y = M x y) : relD M' := by
  have r30 : M' 30 = M 30 := funext fun y => a _ _ (by omega)
  have r31 : M' 31 = M 31 := funext fun y => a _ _ (by omega)
  have r32 : M' 32 = M 32 := funext fun y => a _ _ (by omega)
  have r33 : M' 33 = M 33 := funext fun y => a _ _ (by omega)
  have r4 : M' 204 = M 204 := funext fun y => a _ _ (by omega)
  unfold relD
  rw [r30, r31, r32, r33, r4]
  exact h
theorem fG_fr {M M' : zM} (h : relG M) (a : ∀ x y, (46 ≤ x ∧ x ≤ 49) ∨ (x = 199 ∧ 126 ≤ y ∧ y < 368) → M' x y = M x y) : relG M' :=
  relN_eq h (a _ _ (by omega)) (a _ _ (by omega)) (fun j _ _ => a _ _ (by omega)) (fun j _ _ => a _ _ (by omega)) (fun j _ _ => a _ _ (by omega)) (fun j _ _ => a _ _ (by omega))
theorem fI_fr {M M' : zM} (h : relI M) (a : ∀ x y, (x = -1 ∧ y = 0) ∨ x = 54 ∨ x = 55 ∨ 220 ≤ x ∨ x = 215 ∨ (x = 197 ∧ y = 39) → M' x y = M x y) : relI M' := by
  obtain ⟨h1, h2, h3, h4, h5, h6, h7⟩ := h
  have r54 : M' 54 = M 54 := funext fun y => a _ _ (by omega)
  have r215 : M' 215 = M 215 := funext fun y => a _ _ (by omega)
  have rT : M' (M 54 0) = M (M 54 0) := funext fun y => a _ _ (by omega)
  unfold relI
  rw [r54, r215, rT, a (-1) 0 (by omega), a 197 39 (by omega)]
  exact ⟨h1, h2, h3, h4, h5, h6, h7⟩
theorem fJ_fr {M M' : zM} (h : relJ M) (a : ∀ x y, x = 78 ∨ (153 ≤ x ∧ x ≤ 196) ∨ x = 201 ∨ x = 206 ∨ x = 207 → M' x y = M x y) : relJ M' := fun k k0 k1 =>
  relJ1_fr (h k k0 k1) k0 k1 (a _ _ (by omega)) (fun x y h1 h2 => a _ _ (by omega)) (fun y _ _ => a _ _ (by omega)) (fun y _ _ => a _ _ (by omega)) (a _ _ (by omega))
theorem fH_fr {M M' : zM} (h : relH M) (a : ∀ x y, (x = 51 ∧ y ≠ 9) ∨ x = 52 ∨ x = 53 ∨ x = 210 ∨ x = 212 ∨ x = 217 ∨ (x = 197 ∧ (y = 10 ∨ y = 25 ∨ y = 26 ∨ y = 29 ∨ y = 33 ∨ y = 36 ∨ y = 37 ∨ y = 44)) → M' x y = M x y) : relH M' := by
  have e := h.1
  have r52 : M' 52 = M 52 := funext fun i => a _ _ (by omega)
  have r53 : M' 53 = M 53 := funext fun i => a _ _ (by omega)
  have r210 : M' 210 = M 210 := funext fun i => a _ _ (by omega)
  have r212 : M' 212 = M 212 := funext fun i => a _ _ (by omega)
  have r217 : M' 217 = M 217 := funext fun i => a _ _ (by omega)
  have r51 : ∀ y, y ≠ 9 → M' 51 y = M 51 y := fun y h => a _ _ (by omega)
  unfold relH
  rw [r52, r53, r210, r212, r217, r51 0 (by omega), r51 1 (by omega), r51 2 (by omega), r51 4 (by omega), r51 6 (by omega), r51 7 (by omega), r51 8 (by omega), r51 10 (by omega), r51 11 (by omega), r51 12 (by omega), r51 13 (by omega), r51 14 (by omega), a 197 10 (by omega), a 197 25 (by omega), a 197 26 (by omega), a 197 29 (by omega), a 197 33 (by omega), a 197 36 (by omega), a 197 37 (by omega), a 197 44 (by omega)]
  exact h
theorem fP_fr {M M' : zM} (a : ∀ x y, (x = -1 ∧ (y = 1 ∨ y = 2)) ∨ (x = 54 ∧ y = 1000) → M' x y = M x y) : zPot M M' := by
  unfold zPot
  rw [a (-1) 1 (by omega), a (-1) 2 (by omega), a 54 1000 (by omega)]
  exact ⟨Int.le_refl _, Int.le_refl _⟩
def zStep (M : zM) (cc : zO) (rc : zM → zO) : Prop := ∃ v M1 M2, cc = some ((0, v, 0), M1) ∧ rc M1 = some ((0, v, 0), M2) ∧ Rel M2 ∧ zPot M M2
theorem up_Q {M : zM} {cc : zO} {rc : zM → zO} (h : Rel M) (p : zPairQ M cc rc) : zStep M cc rc := by
  obtain ⟨hA, hC, hE, hD, hG, hF, hH, hI, hJ⟩ := h
  obtain ⟨v, h1, h2⟩ := p
  have f : ∀ x y, ¬ (x = 197 ∧ y = 0) → zup M 197 0 0 x y = M x y := fun x y z => zup_f z
  obtain ⟨kC, kE, kF⟩ := rel_keep (M' := zup M 197 0 0) hC hE hF (fun x y h => f x y (by omega))
  exact ⟨v, M, _, h1, h2, ⟨fA_fr hA (fun x y h => f x y (by omega)), kC, kE, fD_fr hD (fun x y h => f x y (by omega)), fG_fr hG (fun x y h => f x y (by omega)), kF, fH_fr hH (fun x y h => f x y (by omega)), fI_fr hI (fun x y h => f x y (by omega)), fJ_fr hJ (fun x y h => f x y (by omega))⟩, fP_fr (fun x y h => f x y (by omega))⟩
theorem up_D {M : zM} {cc : zO} {rc : zM → zO} (h : Rel M) (p : zPairD M cc rc) : zStep M cc rc := by
  obtain ⟨hA, hC, hE, hD, hG, hF, hH, hI, hJ⟩ := h
  obtain ⟨v, M1, M2, h1, h2, kC, kE, kF, f⟩ := p
  unfold zFD zFA zFC zFR at f
  exact ⟨v, M1, M2, h1, h2, ⟨fA_fr hA (fun x y h => f x y (by omega)), kC, kE, fD_fr hD (fun x y h => f x y (by omega)), fG_fr hG (fun x y h => f x y (by omega)), kF, fH_fr hH (fun x y h => f x y (by omega)), fI_fr hI (fun x y h => f x y (by omega)), fJ_fr hJ (fun x y h => f x y (by omega))⟩, fP_fr (fun x y h => f x y (by omega))⟩
theorem up_P {M : zM} {cc : zO} {rc : zM → zO} (h : Rel M) (p : zPair M cc rc) : zStep M cc rc := up_D h (zPairD_of p)
theorem up_H {M : zM} {cc : zO} {rc : zM → zO} (h : Rel M) (p : zPairH M cc rc) : zStep M cc rc := by
  obtain ⟨hA, hC, hE, hD, hG, hF, hH, hI, hJ⟩ := h
  obtain ⟨v, M1, M2, h1, h2, kH, f⟩ := p
  unfold zFH at f
  obtain ⟨kC, kE, kF⟩ := rel_keep (M' := M2) hC hE hF (fun x y h => f x y (by omega))
  exact ⟨v, M1, M2, h1, h2, ⟨fA_fr hA (fun x y h => f x y (by omega)), kC, kE, fD_fr hD (fun x y h => f x y (by omega)), fG_fr hG (fun x y h => f x y (by omega)), kF, kH, fI_fr hI (fun x y h => f x y (by omega)), fJ_fr hJ (fun x y h => f x y (by omega))⟩, fP_fr (fun x y h => f x y (by omega))⟩
theorem up_HA {M : zM} {cc : zO} {rc : zM → zO} (h : Rel M) (p : zPairHA M cc rc) : zStep M cc rc := by
  obtain ⟨hA, hC, hE, hD, hG, hF, hH, hI, hJ⟩ := h
  obtain ⟨v, M1, M2, h1, h2, kH, kA, f⟩ := p
  unfold zFH zFT at f
  obtain ⟨kC, kE, kF⟩ := rel_keep (M' := M2) hC hE hF (fun x y h => f x y (by omega) (by omega))
  exact ⟨v, M1, M2, h1, h2, ⟨kA, kC, kE, fD_fr hD (fun x y h => f x y (by omega) (by omega)), fG_fr hG (fun x y h => f x y (by omega) (by omega)), kF, kH, fI_fr hI (fun x y h => f x y (by omega) (by omega)), fJ_fr hJ (fun x y h => f x y (by omega) (by omega))⟩, fP_fr (fun x y h => f x y (by omega) (by omega))⟩
theorem up_T0 {M : zM} {cc : zO} {rc : zM → zO} (h : Rel M) (p : zPairT0 M cc rc) : zStep M cc rc := by
  obtain ⟨hA, hC, hE, hD, hG, hF, hH, hI, hJ⟩ := h
  obtain ⟨v, M1, M2, h1, h2, kA, f⟩ := p
  unfold zFT at f
  obtain ⟨kC, kE, kF⟩ := rel_keep (M' := M2) hC hE hF (fun x y h => f x y (by omega))
  exact ⟨v, M1, M2, h1, h2, ⟨kA, kC, kE, fD_fr hD (fun x y h => f x y (by omega)), fG_fr hG (fun x y h => f x y (by omega)), kF, fH_fr hH (fun x y h => f x y (by omega)), fI_fr hI (fun x y h => f x y (by omega)), fJ_fr hJ (fun x y h => f x y (by omega))⟩, fP_fr (fun x y h => f x y (by omega))⟩
theorem up_I {M : zM} {cc : zO} {rc : zM → zO} (h : Rel M) (p : zPairI M cc rc) : zStep M cc rc := by
  obtain ⟨hA, hC, hE, hD, hG, hF, hH, hI, hJ⟩ := h
  obtain ⟨v, M1, M2, h1, h2, kI, f, kP⟩ := p
  unfold zFI zFY at f
  obtain ⟨kC, kE, kF⟩ := rel_keep (M' := M2) hC hE hF (fun x y h => f x y (by omega))
  exact ⟨v, M1, M2, h1, h2, ⟨fA_fr hA (fun x y h => f x y (by omega)), kC, kE, fD_fr hD (fun x y h => f x y (by omega)), fG_fr hG (fun x y h => f x y (by omega)), kF, fH_fr hH (fun x y h => f x y (by omega)), kI, fJ_fr hJ (fun x y h => f x y (by omega))⟩, kP⟩
theorem up_S {M : zM} {cc : zO} {rc : zM → zO} (h : Rel M) (p : zPairS M cc rc) : zStep M cc rc := by
  obtain ⟨hA, hC, hE, hD, hG, hF, hH, hI, hJ⟩ := h
  obtain ⟨v, M1, M2, h1, h2, f⟩ := p
  unfold zFS at f
  obtain ⟨kC, kE, kF⟩ := rel_keep (M' := M2) hC hE hF (fun x y h => f x y (by omega))
  exact ⟨v, M1, M2, h1, h2, ⟨fA_fr hA (fun x y h => f x y (by omega)), kC, kE, fD_fr hD (fun x y h => f x y (by omega)), fG_fr hG (fun x y h => f x y (by omega)), kF, fH_fr hH (fun x y h => f x y (by omega)), fI_fr hI (fun x y h => f x y (by omega)), fJ_fr hJ (fun x y h => f x y (by omega))⟩, fP_fr (fun x y h => f x y (by omega))⟩
theorem up_J {M : zM} {cc : zO} {rc : zM → zO} (h : Rel M) (p : zPairJ M cc rc) : zStep M cc rc := by
  obtain ⟨hA, hC, hE, hD, hG, hF, hH, hI, hJ⟩ := h
  obtain ⟨v, M1, M2, h1, h2, kJ, f⟩ := p
  unfold zFJ at f
  obtain ⟨kC, kE, kF⟩ := rel_keep (M' := M2) hC hE hF (fun x y h => f x y (by omega))
  exact ⟨v, M1, M2, h1, h2, ⟨fA_fr hA (fun x y h => f x y (by omega)), kC, kE, fD_fr hD (fun x y h => f x y (by omega)), fG_fr hG (fun x y h => f x y (by omega)), kF, fH_fr hH (fun x y h => f x y (by omega)), fI_fr hI (fun x y h => f x y (by omega)), kJ⟩, fP_fr (fun x y h => f x y (by omega))⟩
theorem up_X {M : zM} {cc : zO} {rc : zM → zO} (h : Rel M) (p : zPairX M cc rc) : zStep M cc rc := by
  obtain ⟨hA, hC, hE, hD, hG, hF, hH, hI, hJ⟩ := h
  obtain ⟨v, M1, M2, h1, h2, kX, kF, f⟩ := p
  unfold zFX at f
  obtain ⟨kC, kE, kD, kG⟩ := relX_to kX
  exact ⟨v, M1, M2, h1, h2, ⟨fA_fr hA (fun x y h => f x y (by omega)), kC, kE, kD, kG, kF, fH_fr hH (fun x y h => f x y (by omega)), fI_fr hI (fun x y h => f x y (by omega)), fJ_fr hJ (fun x y h => f x y (by omega))⟩, fP_fr (fun x y h => f x y (by omega))⟩
theorem up_V {M : zM} {cc : zO} {rc : zM → zO} (h : Rel M) (p : zPairV M cc rc) : zStep M cc rc := by
  obtain ⟨hA, hC, hE, hD, hG, hF, hH, hI, hJ⟩ := h
  obtain ⟨v, M1, M2, h1, h2, kA, kX, kF, kH, f⟩ := p
  unfold zVc zVr at f
  obtain ⟨kC, kE, kD, kG⟩ := relX_to kX
  exact ⟨v, M1, M2, h1, h2, ⟨kA, kC, kE, kD, kG, kF, kH, fI_fr hI (fun x y h => f x y (by omega)), fJ_fr hJ (fun x y h => f x y (by omega))⟩, fP_fr (fun x y h => f x y (by omega))⟩
theorem up_B {M : zM} {cc : zO} {rc : zM → zO} (h : Rel M) (p : zPairB M cc rc) : zStep M cc rc := by
  obtain ⟨hA, hC, hE, hD, hG, hF, hH, hI, hJ⟩ := h
  obtain ⟨v, M1, M2, h1, h2, kA, kC, kE, kF, kH, f⟩ := p
  unfold zFB zFD zFA zFC zFR at f
  exact ⟨v, M1, M2, h1, h2, ⟨kA, kC, kE, fD_fr hD (fun x y h => f x y (by omega)), fG_fr hG (fun x y h => f x y (by omega)), kF, kH, fI_fr hI (fun x y h => f x y (by omega)), fJ_fr hJ (fun x y h => f x y (by omega))⟩, fP_fr (fun x y h => f x y (by omega))⟩
theorem up_Z {M : zM} {cc : zO} {rc : zM → zO} (h : Rel M) (p : zPairZ M cc rc) : zStep M cc rc := by
  obtain ⟨hA, hC, hE, hD, hG, hF, hH, hI, hJ⟩ := h
  obtain ⟨v, M1, M2, h1, h2, kA, kG, kH, f⟩ := p
  unfold zFZ at f
  obtain ⟨kC, kE, kF⟩ := rel_keep (M' := M2) hC hE hF (fun x y h => f x y (by omega))
  exact ⟨v, M1, M2, h1, h2, ⟨kA, kC, kE, fD_fr hD (fun x y h => f x y (by omega)), kG, kF, kH, fI_fr hI (fun x y h => f x y (by omega)), fJ_fr hJ (fun x y h => f x y (by omega))⟩, fP_fr (fun x y h => f x y (by omega))⟩
