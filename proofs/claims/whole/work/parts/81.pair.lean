/-! an act of both -/
def zFA (x y : Int) : Prop := zFC x y ∨ zFR x y
theorem relC_n {M : zM} (h : relC M) : M 199 0 = M 30 6 ∧ M 199 1 = M 30 7 ∧ M 199 2 = M 30 8 ∧ M 199 39 = M 30 9 ∧ M 199 3 = M 30 10 ∧ M 199 4 = M 30 11 := by
  have e : ∀ i j, zrG M i j = zvG M 30 i j := fun i j => by rw [h.1]
  have h1 := e 0 6
  have h2 := e 0 7
  have h3 := e 0 8
  have h4 := e 0 9
  have h5 := e 0 10
  have h6 := e 0 11
  rw [zrG_06, zvG_0 (by omega) (by omega)] at h1
  rw [zrG_07, zvG_0 (by omega) (by omega)] at h2
  rw [zrG_08, zvG_0 (by omega) (by omega)] at h3
  rw [zrG_09, zvG_0 (by omega) (by omega)] at h4
  rw [zrG_0t, zvG_0 (by omega) (by omega)] at h5
  rw [zrG_0e, zvG_0 (by omega) (by omega)] at h6
  exact ⟨h1, h2, h3, h4, h5, h6⟩
theorem rel_keep {M M' : zM} (hC : relC M) (hE : relE M) (hF : relF M) (h : ∀ x y, ((30 ≤ x ∧ x ≤ 45) ∨ x = 77 ∨ (81 ≤ x ∧ x ≤ 152) ∨ (x = 0 ∧ y = 13) ∨ (x = 199 ∧ y ≤ 125) ∨ (x = 197 ∧ y = 24) ∨ x = 202) → M' x y = M x y) : relC M' ∧ relE M' ∧ relF M' := by
  have eG : zvG M' 30 = zvG M 30 := zvG_eq (fun x y h1 h2 => h x y (by omega))
  have eS : zvS M' 37 = zvS M 37 := zvS_eq (fun x y h1 h2 => h x y (by omega))
  have eR : zrS M' = zrS M := zrS_eq (fun y h1 h2 h3 => h 199 y (by omega))
  have eQ : zrG M' = zrG M := zrG_eq (fun y h1 h2 => h 199 y (by omega))
  have e77 : ∀ i, M' 77 i = M 77 i := fun i => h 77 i (by omega)
  obtain ⟨f1, f2, f3, f4⟩ := hF
  refine ⟨⟨by rw [eG, eQ]; exact hC.1, by rw [eG]; exact hC.2⟩, ⟨by rw [eR, eS]; exact hE.1, by rw [eS, eG]; exact hE.2.1, by rw [h 199 78 (by omega), eS, eG]; exact hE.2.2⟩, by rw [h 0 13 (by omega)]; exact f1, by rw [h 0 13 (by omega), h 197 24 (by omega)]; exact f2, okP_eq e77 f3, fun i i0 i1 => ?_⟩
  rw [h 0 13 (by omega)] at i1
  obtain ⟨k1, k2, k3⟩ := f4 i i0 i1
  have hp := f3.1 i i0 (by omega)
  have eV : zvS M' (M 77 i) = zvS M (M 77 i) := zvS_eq (fun x y h1 h2 => h x y (by omega))
  have eZ : zsS M' (51 * i) = zsS M (51 * i) := zsS_eq (fun y h1 h2 => h 202 y (by omega))
  rw [e77, eV, eZ, h 202 _ (by omega), eG]
  exact ⟨k1, k2, k3⟩
theorem pair_done {M S' M1 M2 : zM} {fl : Int} (hC : relC M) (hE : relE M) (hF : relF M) (hc : cDone M S' M1) (hr : rDone M1 S' fl M2) (hok : okT S' (zvG M 30)) (hfl : fl = zfl (sPut S' (zvG M 30))) : relC M2 ∧ relE M2 ∧ relF M2 ∧ ∀ x y, ¬ zFA x y → M2 x y = M x y := by
  obtain ⟨c1, c2, c3, c4, c5, c6⟩ := hc
  obtain ⟨r1, r2, r3, r4, r5, r6, r7⟩ := hr
  obtain ⟨f1, f2, f3, f4⟩ := hF
  have fr : ∀ x y, ¬ zFA x y → M2 x y = M x y := fun x y h => by
    rw [r1 x y (fun z => h (Or.inr z)), c1 x y (fun z => h (Or.inl z))]
  have eG : zvG M2 30 = zvG M 30 := zvG_eq (fun x y h1 h2 => fr x y (by unfold zFA zFC zFR; omega))
  have eQ : zrG M2 = zrG M := zrG_eq (fun y h1 h2 => fr 199 y (by unfold zFA zFC zFR; omega))
  have eS : zvS M2 37 = S' := by
    rw [← c2]
    exact zvS_eq (fun x y h1 h2 => r1 x y (by unfold zFR; omega))
  have e13 : M2 0 13 = M1 0 13 := r1 0 13 (by unfold zFR; omega)
  have e77 : ∀ i, M2 77 i = M1 77 i := fun i => r1 77 i (by unfold zFR; omega)
  have e24 : M1 197 24 = M 0 13 := by rw [c1 197 24 (by unfold zFC; omega)]; exact f2
  have eR1 : zrS M1 = zrS M := zrS_eq (fun y h1 h2 h3 => c1 199 y (by unfold zFC; omega))
  have n1 : M2 197 24 = M1 0 13 := by rw [r4, c4, e24]
  have hn : M1 0 13 = if M 0 13 = 8 then 8 else M 0 13 + 1 := c4
  have hn2 : 1 ≤ M1 0 13 ∧ M1 0 13 ≤ 8 := by rw [hn]; split <;> omega
  refine ⟨⟨by rw [eG, eQ]; exact hC.1, by rw [eG]; exact hC.2⟩, ⟨by rw [r2, eS], by rw [eS, eG]; exact hok, by rw [r3, eS, eG]; exact hfl⟩, ⟨by rw [e13]; omega, by rw [n1, e13], okP_eq e77 c3, fun i i0 i1 => ?_⟩, fr⟩
  rw [e13] at i1
  have hp := c3.1 i i0 (by omega)
  have eV : zvS M2 (M1 77 i) = zvS M1 (M1 77 i) := zvS_eq (fun x y h1 h2 => r1 x y (by unfold zFR; omega))
  rw [e77, eV, eG]
  by_cases ci : i = M1 0 13 - 1
  · have e1 : zsS M2 (51 * i) = zrS M := by rw [ci, ← n1, r5, eR1]
    have e2 : M2 202 (51 * i + 3) = M 199 78 := by rw [ci, ← n1, r6, c1 199 78 (by unfold zFC; omega)]
    have e3 : zvS M1 (M1 77 i) = zvS M 37 := by rw [ci]; exact c5
    rw [e1, e2, e3]
    exact hE
  · obtain ⟨k1, k2⟩ := r7 i i0 (by omega)
    have hx : 0 ≤ (if M 0 13 = 8 then i + 1 else i) ∧ (if M 0 13 = 8 then i + 1 else i) < M 0 13 := by
      by_cases c : M 0 13 = 8
      · rw [if_pos c] at hn ⊢; omega
      · rw [if_neg c] at hn ⊢; omega
    obtain ⟨a1, a2, a3⟩ := f4 _ hx.1 hx.2
    rw [e24] at k1 k2
    have e4 : ∀ o, zsS M1 o = zsS M o := fun o => zsS_eq (fun y _ _ => c1 202 y (by unfold zFC; omega))
    rw [k1, k2, e4, c6 i i0 (by omega), c1 202 _ (by unfold zFC; omega)]
    exact ⟨a1, a2, a3⟩
def zPair (M : zM) (cc : zO) (rc : zM → zO) : Prop := ∃ v M1 M2, cc = some ((0, v, 0), M1) ∧ rc M1 = some ((0, v, 0), M2) ∧ relC M2 ∧ relE M2 ∧ relF M2 ∧ ∀ x y, ¬ zFA x y → M2 x y = M x y
theorem pair_act {M : zM} {V : Prop} {W : Int} {S' : zM} {fl : Int} {cc : zO} {rc : zM → zO} (hC : relC M) (hE : relE M) (hF : relF M)
    (hc : (¬ V → cc = some ((0, -1, 0), M)) ∧ (V → (W ≠ 0 → cc = some ((0, W, 0), cpS M 59 37)) ∧ (W = 0 → ∃ M', cc = some ((0, 0, 0), M') ∧ cDone M S' M')))
    (hr : ∀ M1, zrS M1 = zvS M 37 → zrG M1 = zvG M 30 → M1 199 78 = M 199 78 → M1 197 24 = M 197 24 → (¬ V → rc M1 = some ((0, -1, 0), zup M1 197 0 0)) ∧ (V → (W ≠ 0 → rc M1 = some ((0, W, 0), zup M1 197 0 0)) ∧ (W = 0 → ∃ M', rc M1 = some ((0, 0, 0), M') ∧ rDone M1 S' fl M')))
    (hok : V → W = 0 → okT S' (zvG M 30) ∧ fl = zfl (sPut S' (zvG M 30))) : zPair M cc rc := by
  have keep : ∀ M1, (∀ x y, ¬ (59 ≤ x ∧ x ≤ 67) → M1 x y = M x y) → zrS M1 = zvS M 37 ∧ zrG M1 = zvG M 30 ∧ M1 199 78 = M 199 78 ∧ M1 197 24 = M 197 24 ∧ (relC (zup M1 197 0 0) ∧ relE (zup M1 197 0 0) ∧ relF (zup M1 197 0 0)) ∧ ∀ x y, ¬ zFA x y → zup M1 197 0 0 x y = M x y := by
    intro M1 h
    refine ⟨?_, ?_, h _ _ (by omega), h _ _ (by omega), rel_keep hC hE hF (fun x y hx => ?_), fun x y hx => ?_⟩
    · rw [zrS_eq (M := M) (fun y _ _ _ => h 199 y (by omega))]; exact hE.1
    · rw [zrG_eq (M := M) (fun y _ _ => h 199 y (by omega))]; exact hC.1
    · have : zup M1 197 0 0 x y = M1 x y := by unfold zup; rw [if_neg (by omega)]
      rw [this, h x y (by omega)]
    · unfold zFA zFC zFR at hx
      have : zup M1 197 0 0 x y = M1 x y := by unfold zup; rw [if_neg (by omega)]
      rw [this, h x y (by omega)]
  have kM := keep M (fun _ _ _ => rfl)
  have kP := keep (cpS M 59 37) (fun x y h => cpS_o (by omega))
  by_cases hv : V
  · by_cases hw : W = 0
    · obtain ⟨M1, h1, h2⟩ := (hc.2 hv).2 hw
      have e1 : zrS M1 = zvS M 37 := by rw [zrS_eq (M := M) (fun y _ _ _ => h2.1 199 y (by unfold zFC; omega))]; exact hE.1
      have e2 : zrG M1 = zvG M 30 := by rw [zrG_eq (M := M) (fun y _ _ => h2.1 199 y (by unfold zFC; omega))]; exact hC.1
      obtain ⟨M2, h3, h4⟩ := ((hr M1 e1 e2 (h2.1 199 78 (by unfold zFC; omega)) (h2.1 197 24 (by unfold zFC; omega))).2 hv).2 hw
      obtain ⟨o1, o2⟩ := hok hv hw
      obtain ⟨p1, p2, p3, p4⟩ := pair_done hC hE hF h2 h4 o1 o2
      exact ⟨0, M1, M2, h1, h3, p1, p2, p3, p4⟩
    · obtain ⟨p1, p2, p3, p4, ⟨p5, p6, p7⟩, p8⟩ := kP
      exact ⟨W, cpS M 59 37, _, (hc.2 hv).1 hw, ((hr _ p1 p2 p3 p4).2 hv).1 hw, p5, p6, p7, p8⟩
  · obtain ⟨p1, p2, p3, p4, ⟨p5, p6, p7⟩, p8⟩ := kM
    exact ⟨-1, M, _, hc.1 hv, (hr _ p1 p2 p3 p4).1 hv, p5, p6, p7, p8⟩
