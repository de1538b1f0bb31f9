/-! images, what is taken back, a valley read: on either kind of valley (gensv2.py) -/
def relXs (M : zM) (l s g : Int) (R N : Int → Int) : Prop := (zRG R = zvG M l ∧ okG (zvG M l)) ∧ (zRS R = sgS (zvS M s) ∧ okTs (zvS M s) (zvG M l) ∧ R 78 = 0) ∧ relM M l N ∧ relN M g R ∧ (M l 6 = 0 ∧ M l 7 = 0 ∧ M l 8 = 0)
def relY (M : zM) (l s g : Int) (R N : Int → Int) : Prop := relX M l s g R N ∨ relXs M l s g R N
/-- the present valley, its state and what was kept of it -/
def relZ (M : zM) : Prop := (relX M 30 37 46 (M 199) (M 204) ∧ relF M) ∨ (relXs M 30 37 46 (M 199) (M 204) ∧ relFs M)
theorem relXs_eq {M M' : zM} {l s g l' s' g' : Int} {R R' N N' : Int → Int} (h : relXs M l s g R N) (hl : zvG M' l' = zvG M l) (hs : zvS M' s' = zvS M s) (h6 : M' l' 6 = M l 6) (h7 : M' l' 7 = M l 7) (h8 : M' l' 8 = M l 8) (m1 : ∀ j, 0 ≤ j → j < 5 → M' (l' + 1) j = M (l + 1) j) (m2 : ∀ j, 0 ≤ j → j < 10 → M' (l' + 2) j = M (l + 2) j) (m3 : ∀ j, 0 ≤ j → j < 5 → M' (l' + 3) j = M (l + 3) j) (h4 : M' g' 4 = M g 4) (h5 : M' g' 5 = M g 5) (k1 : ∀ j, 0 ≤ j → j < 40 → M' (g' + 1) j = M (g + 1) j) (k2 : ∀ j, 0 ≤ j → j < 40 → M' (g' + 2) j = M (g + 2) j) (k3 : ∀ j, 0 ≤ j → j < 40 → M' (g' + 3) j = M (g + 3) j) (hR : ∀ j, 0 ≤ j → j < 368 → R' j = R j) (hN : ∀ j, 0 ≤ j → j < 20 → N' j = N j) : relXs M' l' s' g' R' N' := by
  obtain ⟨⟨a1, a2⟩, ⟨b1, b2, b3⟩, ⟨c1, c2, c3⟩, d1, d2⟩ := h
  obtain ⟨⟨g6, g6'⟩, ⟨g1, g2⟩, ⟨g3, g4⟩, -⟩ := okG_M a2
  refine ⟨⟨?_, by rw [hl]; exact a2⟩, ⟨?_, by rw [hs, hl]; exact b2, by rw [hR 78 (by omega) (by omega)]; exact b3⟩, ⟨fun k p0 p1 => ?_, fun k p0 p1 => ?_, fun k p0 p1 => ?_⟩, relN_eq d1 h4 h5 k1 k2 k3 (fun j j0 j1 => hR j (by omega) j1), by rw [h6, h7, h8]; exact d2⟩
  · rw [hl, zRG_eq (fun y y0 y1 => hR y y0 (by omega))]; exact a1
  · rw [hs, zRS_eq (fun y y0 y1 => hR y (by omega) (by omega))]; exact b1
  · rw [h6] at p1
    rw [m1 k p0 (by omega), hN k p0 (by omega)]; exact c1 k p0 p1
  · rw [h7] at p1
    rw [m2 k p0 (by omega), hN _ (by omega) (by omega)]; exact c2 k p0 p1
  · rw [h8] at p1
    rw [m3 k p0 (by omega), hN _ (by omega) (by omega)]; exact c3 k p0 p1
theorem relXs_cpA {M : zM} {l l0 s s0 g g0 : Int} {R N R' N' : Int → Int} (h : relXs M l0 s0 g0 R N) (hl : 0 ≤ l ∧ l + 7 ≤ s ∧ s + 9 ≤ g) (hl0 : 0 ≤ l0 ∧ l0 + 7 ≤ s0 ∧ s0 + 9 ≤ g0) (hs : g + 5 ≤ l0 ∨ g0 + 5 ≤ l) (A : zM) (hA : ∀ x y, l ≤ x → x < g + 5 → A x y = cpA M l l0 s s0 g g0 x y) (hR : ∀ j, 0 ≤ j → j < 368 → R' j = R j) (hN : ∀ j, 0 ≤ j → j < 20 → N' j = N j) : relXs A l s g R' N' := by
  obtain ⟨v1, v2, v3, v4, v5, v6⟩ := cpV_n (M := M) (a := l) (b := l0) (by omega) (by omega)
  obtain ⟨n1, n2, n3, n4, n5⟩ := cpN_n (M := cpS (cpV M l l0) s s0) (a := g) (b := g0) (by omega) (by omega)
  have o : ∀ x y, l ≤ x → x < l + 7 → A x y = cpV M l l0 x y := fun x y h1 h2 => by
    rw [hA x y h1 (by omega)]
    unfold cpA
    rw [cpN_o (by omega), cpS_o (by omega)]
  have p : ∀ x y, g ≤ x → x < g + 5 → A x y = cpN (cpS (cpV M l l0) s s0) g g0 x y := fun x y h1 h2 => hA x y (by omega) h2
  have q : ∀ x y, g0 ≤ x → x < g0 + 5 → cpS (cpV M l l0) s s0 x y = M x y := fun x y h1 h2 => by rw [cpS_o (by omega), cpV_o (by omega)]
  refine relXs_eq h ?_ ?_ ?_ ?_ ?_ (fun j h1 h2 => ?_) (fun j h1 h2 => ?_) (fun j h1 h2 => ?_) ?_ ?_ (fun j h1 h2 => ?_) (fun j h1 h2 => ?_) (fun j h1 h2 => ?_) hR hN
  · rw [zvG_eq (M := cpV M l l0) (fun x y h1 h2 => o x y h1 h2)]
    exact zvG_cp (by omega) (by omega)
  · rw [zvS_eq (M := cpS (cpV M l l0) s s0) (fun x y h1 h2 => by
      rw [hA x y (by omega) (by omega)]
      unfold cpA
      rw [cpN_o (by omega)]), zvS_cp (by omega) (by omega)]
    exact zvS_eq (fun x y h1 h2 => cpV_o (by omega))
  · rw [o _ _ (by omega) (by omega)]; exact v1
  · rw [o _ _ (by omega) (by omega)]; exact v2
  · rw [o _ _ (by omega) (by omega)]; exact v3
  · rw [o _ _ (by omega) (by omega)]; exact v4 j h1 h2
  · rw [o _ _ (by omega) (by omega)]; exact v5 j h1 h2
  · rw [o _ _ (by omega) (by omega)]; exact v6 j h1 h2
  · rw [p _ _ (by omega) (by omega), n1]; exact q _ _ (by omega) (by omega)
  · rw [p _ _ (by omega) (by omega), n2]; exact q _ _ (by omega) (by omega)
  · rw [p _ _ (by omega) (by omega), n3 j h1 h2]; exact q _ _ (by omega) (by omega)
  · rw [p _ _ (by omega) (by omega), n4 j h1 h2]; exact q _ _ (by omega) (by omega)
  · rw [p _ _ (by omega) (by omega), n5 j h1 h2]; exact q _ _ (by omega) (by omega)
theorem relXs_fr {M M' : zM} {l s g : Int} {R N R' N' : Int → Int} (h : relXs M l s g R N) (hl : ∀ x y, l ≤ x → x < l + 7 → M' x y = M x y) (hs : ∀ x y, s ≤ x → x < s + 9 → M' x y = M x y) (hg : ∀ x y, g ≤ x → x < g + 4 → M' x y = M x y) (hR : ∀ j, 0 ≤ j → j < 368 → R' j = R j) (hN : ∀ j, 0 ≤ j → j < 20 → N' j = N j) : relXs M' l s g R' N' :=
  relXs_eq h (zvG_eq hl) (zvS_eq hs) (hl _ _ (by omega) (by omega)) (hl _ _ (by omega) (by omega)) (hl _ _ (by omega) (by omega)) (fun j _ _ => hl _ _ (by omega) (by omega)) (fun j _ _ => hl _ _ (by omega) (by omega)) (fun j _ _ => hl _ _ (by omega) (by omega)) (hg _ _ (by omega) (by omega)) (hg _ _ (by omega) (by omega)) (fun j _ _ => hg _ _ (by omega) (by omega)) (fun j _ _ => hg _ _ (by omega) (by omega)) (fun j _ _ => hg _ _ (by omega) (by omega)) hR hN
theorem relY_cpA {M : zM} {l l0 s s0 g g0 : Int} {R N R' N' : Int → Int} (h : relY M l0 s0 g0 R N) (hl : 0 ≤ l ∧ l + 7 ≤ s ∧ s + 9 ≤ g) (hl0 : 0 ≤ l0 ∧ l0 + 7 ≤ s0 ∧ s0 + 9 ≤ g0) (hs : g + 5 ≤ l0 ∨ g0 + 5 ≤ l) (A : zM) (hA : ∀ x y, l ≤ x → x < g + 5 → A x y = cpA M l l0 s s0 g g0 x y) (hR : ∀ j, 0 ≤ j → j < 368 → R' j = R j) (hN : ∀ j, 0 ≤ j → j < 20 → N' j = N j) : relY A l s g R' N' := h.elim (fun h => Or.inl (relX_cpA h hl hl0 hs A hA hR hN)) (fun h => Or.inr (relXs_cpA h hl hl0 hs A hA hR hN))
theorem relY_fr {M M' : zM} {l s g : Int} {R N R' N' : Int → Int} (h : relY M l s g R N) (hl : ∀ x y, l ≤ x → x < l + 7 → M' x y = M x y) (hs : ∀ x y, s ≤ x → x < s + 9 → M' x y = M x y) (hg : ∀ x y, g ≤ x → x < g + 4 → M' x y = M x y) (hR : ∀ j, 0 ≤ j → j < 368 → R' j = R j) (hN : ∀ j, 0 ≤ j → j < 20 → N' j = N j) : relY M' l s g R' N' := h.elim (fun h => Or.inl (relX_fr h hl hs hg hR hN)) (fun h => Or.inr (relXs_fr h hl hs hg hR hN))
def relK1 (M : zM) (k : Int) : Prop := M 78 k = 153 + 22 * k ∧ ((M (153 + 22 * k) 3 = 0 ∧ M 207 k = 0) ∨ ((M (153 + 22 * k) 3 = 1 ∧ M 207 k = 1) ∧ relY M (153 + 22 * k + 1) (153 + 22 * k + 8) (153 + 22 * k + 17) (fun y => M 201 (368 * k + y)) (fun y => M 206 (20 * k + y))))
def relK (M : zM) : Prop := ∀ k, 0 ≤ k → k ≤ 1 → relK1 M k
theorem relK1_fr {M M' : zM} {k : Int} (h : relK1 M k) (k0 : 0 ≤ k) (k1 : k ≤ 1) (h78 : M' 78 k = M 78 k) (hx : ∀ x y, 153 + 22 * k ≤ x → x < 153 + 22 * k + 22 → M' x y = M x y) (h1 : ∀ y, 368 * k ≤ y → y < 368 * k + 368 → M' 201 y = M 201 y) (h6 : ∀ y, 20 * k ≤ y → y < 20 * k + 20 → M' 206 y = M 206 y) (h7 : M' 207 k = M 207 k) : relK1 M' k := by
  unfold relK1
  rw [h78, h7, hx _ 3 (by omega) (by omega)]
  refine ⟨h.1, ?_⟩
  rcases h.2 with h | ⟨h, hX⟩
  · exact Or.inl h
  · exact Or.inr ⟨h, relY_fr hX (fun x y p1 p2 => hx x y (by omega) (by omega)) (fun x y p1 p2 => hx x y (by omega) (by omega)) (fun x y p1 p2 => hx x y (by omega) (by omega)) (fun j j0 j1 => h1 _ (by omega) (by omega)) (fun j j0 j1 => h6 _ (by omega) (by omega))⟩
def zPairK (M : zM) (cc : zO) (rc : zM → zO) : Prop := ∃ v M1 M2, cc = some ((0, v, 0), M1) ∧ rc M1 = some ((0, v, 0), M2) ∧ relK M2 ∧ ∀ x y, ¬ zFJ x y → M2 x y = M x y
theorem pairK_image (d : Nat) (x0 z0 k y1 z1 : Int) (M : zM) (hX : relY M 30 37 46 (M 199) (M 204)) (hJ : relK M) : zPairK M (zEm true (d + 8) 43 [(29, 0, x0), (0, k, y1)] M) (fun M1 => zEm true (d + 8) 297 [(30, 197, z0), (0, k, z1)] M1) := by
  have ha : 0 ≤ k → k ≤ 1 → M 78 k = 153 + 22 * k ∧ 60 ≤ 153 + 22 * k := fun k0 k1 => ⟨(hJ k k0 k1).1, by omega⟩
  obtain ⟨c1, c2⟩ := c_image d x0 k y1 (153 + 22 * k) M ha
  by_cases c : 0 ≤ k ∧ k ≤ 1
  · have c2 := c2 c
    have eA : cImg M (153 + 22 * k) = zup (cpA M (153 + 22 * k + 1) 30 (153 + 22 * k + 8) 37 (153 + 22 * k + 17) 46) (153 + 22 * k) 3 1 := rfl
    obtain ⟨A, hA⟩ : ∃ A, A = cImg M (153 + 22 * k) := ⟨_, rfl⟩
    have oA : ∀ x y, ¬ (153 + 22 * k ≤ x ∧ x < 153 + 22 * k + 22) → A x y = M x y := fun x y h => by
      rw [hA, eA, zup_a (by omega), cpA_o (by omega) (by omega) (by omega)]
    rw [← hA] at c2
    obtain ⟨-, r2⟩ := r_image d z0 k z1 A
    obtain ⟨B, b1, b2, b3, b4, b5⟩ := r2 c
    have oB : ∀ x y, ¬ (x = 197 ∧ y = 0) → x ≠ 207 → x ≠ 201 → x ≠ 206 → B x y = A x y := fun x y h1 h2 h3 h4 => b5 x y h1 (fun z => h2 z.1) (fun z => h3 z.1) (fun z => h4 z.1)
    refine ⟨1, A, B, c2, b1, fun k' k0 k1 => ?_, fun x y h => ?_⟩
    · by_cases e : k' = k
      · subst e
        refine ⟨by rw [oB _ _ (by omega) (by omega) (by omega) (by omega), oA _ _ (by omega)]; exact (hJ k' k0 k1).1, Or.inr ⟨⟨?_, b2⟩, ?_⟩⟩
        · rw [oB _ _ (by omega) (by omega) (by omega) (by omega), hA, eA]
          exact zup_e (by omega)
        · refine relY_cpA hX (by omega) (by omega) (by omega) B (fun x y p1 p2 => ?_) (fun j j0 j1 => ?_) (fun j j0 j1 => ?_)
          · rw [oB _ _ (by omega) (by omega) (by omega) (by omega), hA, eA, zup_a (by omega)]
          · rw [b3 j j0 j1, oA _ _ (by omega)]
          · rw [b4 j j0 j1, oA _ _ (by omega)]
      · refine relK1_fr (hJ k' k0 k1) k0 k1 ?_ (fun x y p1 p2 => ?_) (fun y p1 p2 => ?_) (fun y p1 p2 => ?_) ?_
        · rw [oB _ _ (by omega) (by omega) (by omega) (by omega), oA _ _ (by omega)]
        · rw [oB _ _ (by omega) (by omega) (by omega) (by omega), oA _ _ (by omega)]
        · rw [b5 _ _ (by omega) (by omega) (by omega) (by omega), oA _ _ (by omega)]
        · rw [b5 _ _ (by omega) (by omega) (by omega) (by omega), oA _ _ (by omega)]
        · rw [b5 _ _ (by omega) (by omega) (by omega) (by omega), oA _ _ (by omega)]
    · unfold zFJ at h
      rw [oB _ _ (by omega) (by omega) (by omega) (by omega), oA _ _ (by omega)]
  · refine ⟨0, M, _, c1 c, (r_image d z0 k z1 M).1 c, fun k' k0 k1 => ?_, fun x y h => ?_⟩
    · refine relK1_fr (hJ k' k0 k1) k0 k1 (zup_a (by omega)) (fun x y p1 p2 => ?_) (fun y p1 p2 => zup_a (by omega)) (fun y p1 p2 => zup_a (by omega)) (zup_a (by omega))
      unfold zup; rw [if_neg (by omega)]
    · unfold zFJ at h
      unfold zup; rw [if_neg (by omega)]
def zPairXZ (M : zM) (cc : zO) (rc : zM → zO) : Prop := ∃ v M1 M2, cc = some ((0, v, 0), M1) ∧ rc M1 = some ((0, v, 0), M2) ∧ relZ M2 ∧ ∀ x y, ¬ zFX x y → M2 x y = M x y
theorem relXs_to {M : zM} (h : relXs M 30 37 46 (M 199) (M 204)) : relC M ∧ emV M ∧ relEs M ∧ relD M ∧ relG M := ⟨h.1, h.2.2.2.2, h.2.1, h.2.2.1, h.2.2.2.1⟩
theorem relXs_of {M : zM} (hC : relC M) (hV : emV M) (hE : relEs M) (hD : relD M) (hG : relG M) : relXs M 30 37 46 (M 199) (M 204) := ⟨hC, hE, hD, hG, hV⟩
/-- what both kinds say of what was kept -/
def relFb (M : zM) : Prop := (0 ≤ M 0 13 ∧ M 0 13 ≤ 8) ∧ M 197 24 = M 0 13 ∧ okP M
theorem relZ_b {M : zM} (h : relZ M) : relFb M := by
  rcases h with ⟨-, h1, h2, h3, -⟩ | ⟨-, h1, h2, h3, -⟩
  · exact ⟨h1, h2, h3⟩
  · exact ⟨h1, h2, h3⟩
theorem relFs_fr {M M' : zM} (h : relFs M) (a : ∀ x y, (x = 0 ∧ y = 13) ∨ (x = 197 ∧ y = 24) ∨ x = 77 ∨ (81 ≤ x ∧ x ≤ 152) ∨ x = 202 ∨ (30 ≤ x ∧ x ≤ 36) → M' x y = M x y) : relFs M' := by
  obtain ⟨h1, h2, h3, h4⟩ := h
  unfold relFs
  rw [a 0 13 (by omega), a 197 24 (by omega)]
  have r77 : M' 77 = M 77 := funext fun i => a _ _ (by omega)
  have r202 : M' 202 = M 202 := funext fun i => a _ _ (by omega)
  refine ⟨h1, h2, ?_, fun i i0 i1 => ?_⟩
  · unfold okP at h3 ⊢
    rw [r77]
    exact h3
  · obtain ⟨g1, g2, g3⟩ := h4 i i0 i1
    have hp := h3.1 i i0 (by omega)
    have e1 : zvS M' (M 77 i) = zvS M (M 77 i) := zvS_eq (fun x y z1 z2 => a x y (by omega))
    have e2 : zvG M' 30 = zvG M 30 := zvG_eq (fun x y z1 z2 => a x y (by omega))
    have e3 : zsS M' (51 * i) = zsS M (51 * i) := by unfold zsS; rw [r202]
    rw [r77, r202, e1, e2, e3]
    exact ⟨g1, g2, g3⟩
/-- nothing of it changed -/
theorem relZ_fr {M M' : zM} (h : relZ M) (a : ∀ x y, (x = 0 ∧ y = 13) ∨ (x = 197 ∧ y = 24) ∨ x = 77 ∨ (81 ≤ x ∧ x ≤ 152) ∨ x = 202 ∨ (30 ≤ x ∧ x ≤ 49) ∨ (x = 199 ∧ y < 368) ∨ x = 204 → M' x y = M x y) : relZ M' := by
  rcases h with ⟨h1, h2⟩ | ⟨h1, h2⟩
  · exact Or.inl ⟨relX_fr h1 (fun x y p1 p2 => a x y (by omega)) (fun x y p1 p2 => a x y (by omega)) (fun x y p1 p2 => a x y (by omega)) (fun j _ _ => a _ _ (by omega)) (fun j _ _ => a _ _ (by omega)), relF_fr h2 (fun x y h => a x y (by omega))⟩
  · exact Or.inr ⟨relXs_fr h1 (fun x y p1 p2 => a x y (by omega)) (fun x y p1 p2 => a x y (by omega)) (fun x y p1 p2 => a x y (by omega)) (fun j _ _ => a _ _ (by omega)) (fun j _ _ => a _ _ (by omega)), relFs_fr h2 (fun x y h => a x y (by omega))⟩
/-- nothing is kept of it -/
theorem relZ_0 {M : zM} (h : relY M 30 37 46 (M 199) (M 204)) (h0 : M 0 13 = 0) (h1 : M 197 24 = 0) (hp : okP M) : relZ M := by
  rcases h with h | h
  · exact Or.inl ⟨h, by omega, by omega, hp, fun i i0 i1 => by omega⟩
  · exact Or.inr ⟨h, by omega, by omega, hp, fun i i0 i1 => by omega⟩
theorem pairK_restore (d : Nat) (x0 z0 k y1 z1 : Int) (M : zM) (hZ : relZ M) (hJ : relK M) : zPairXZ M (zEm true (d + 8) 44 [(29, 0, x0), (0, k, y1)] M) (fun M1 => zEm true (d + 8) 298 [(30, 197, z0), (0, k, z1)] M1) := by
  have ha : 0 ≤ k → k ≤ 1 → M 78 k = 153 + 22 * k ∧ 81 ≤ 153 + 22 * k := fun k0 k1 => ⟨(hJ k k0 k1).1, by omega⟩
  obtain ⟨c1, c2⟩ := c_restore d x0 k y1 (153 + 22 * k) M ha
  by_cases c : (0 ≤ k ∧ k ≤ 1) ∧ M (153 + 22 * k) 3 ≠ 0
  · have c2 := c2 c
    obtain ⟨⟨k0, k1⟩, c3⟩ := c
    obtain ⟨j1, j2⟩ := hJ k k0 k1
    rcases j2 with ⟨j2, -⟩ | ⟨⟨j2, j3⟩, jX⟩
    · exact absurd j2 c3
    have eA : cRes M (153 + 22 * k) = zup (cpA M 30 (153 + 22 * k + 1) 37 (153 + 22 * k + 8) 46 (153 + 22 * k + 17)) 0 13 0 := rfl
    obtain ⟨A, hA⟩ : ∃ A, A = cRes M (153 + 22 * k) := ⟨_, rfl⟩
    have oA : ∀ x y, ¬ (30 ≤ x ∧ x ≤ 50) → ¬ (x = 0 ∧ y = 13) → A x y = M x y := fun x y h h2 => by
      rw [hA, eA]
      have : ∀ N : zM, zup N 0 13 0 x y = N x y := fun N => by unfold zup; rw [if_neg (fun z => h2 ⟨z.1, z.2.1⟩)]
      rw [this, cpA_o (by omega) (by omega) (by omega)]
    rw [← hA] at c2
    have r2 := (r_restore d z0 k z1 A).2 ⟨⟨k0, k1⟩, by rw [oA _ _ (by omega) (by omega), j3]; omega⟩
    obtain ⟨B, b1, b2, b3, b4, b5⟩ := r2
    obtain ⟨⟨f1, f1'⟩, f2, f3⟩ := relZ_b hZ
    have e77 : ∀ i, B 77 i = M 77 i := fun i => by rw [b5 _ _ (by omega) (by omega) (by omega), oA _ _ (by omega) (by omega)]
    have e13 : B 0 13 = 0 := by rw [b5 _ _ (by omega) (by omega) (by omega), hA, eA]; exact zup_e (by omega)
    refine ⟨1, A, B, c2, b1, relZ_0 ?_ e13 b2 (okP_eq e77 f3), fun x y h => ?_⟩
    · refine relY_cpA jX (by omega) (by omega) (by omega) B (fun x y p1 p2 => ?_) (fun j j0 j1 => ?_) (fun j j0 j1 => ?_)
      · rw [b5 _ _ (by omega) (by omega) (by omega), hA, eA, zup_a (by omega)]
      · rw [b3 j j0 j1, oA _ _ (by omega) (by omega)]
      · rw [b4 j j0 j1, oA _ _ (by omega) (by omega)]
    · unfold zFX at h
      rw [b5 _ _ (by omega) (by omega) (by omega), oA _ _ (by omega) (by omega)]
  · have hr : ¬ ((0 ≤ k ∧ k ≤ 1) ∧ M 207 k ≠ 0) := by
      rintro ⟨k01, h⟩
      obtain ⟨-, j2⟩ := hJ k k01.1 k01.2
      rcases j2 with ⟨-, j3⟩ | ⟨⟨j3, -⟩, -⟩
      · exact h j3
      · exact c ⟨k01, by rw [j3]; omega⟩
    refine ⟨0, M, _, c1 c, (r_restore d z0 k z1 M).1 hr, relZ_fr hZ (fun x y h => zup_f (by omega)), fun x y h => ?_⟩
    unfold zFX at h
    unfold zup; rw [if_neg (by omega)]
def zPairVZ (M : zM) (cc : zO) (rc : zM → zO) : Prop := ∃ v M1 M2, cc = some ((0, v, 0), M1) ∧ rc M1 = some ((0, v, 0), M2) ∧ relA M2 ∧ relZ M2 ∧ relH M2 ∧ ∀ x y, ¬ (zVc x y ∨ zVr x y) → M2 x y = M x y
theorem pairK_valley (d : Nat) (x0 z0 : Int) (M : zM) (hA : relA M) (hZ : relZ M) (hH : relH M) : zPairVZ M (zEm true (d + 16) 3 [(29, 0, x0)] M) (fun M1 => zEm true (d + 16) 203 [(30, 197, z0)] M1) := by
  have hA0 : relTT M M := hA
  obtain ⟨A, -, r, a1, -, a2, -⟩ := l_valley hA0 (d + 16) (d + 16) (by omega) (by omega) x0 z0
  have hA1 : relTT M A := by
    refine ⟨hA.1, ?_, fun i i0 i1 => ?_⟩
    · rw [a2 _ _ (by unfold zVc; omega)]; exact hA.2.1
    · rw [a2 _ _ (by unfold zVc; omega)]; exact hA.2.2 i i0 i1
  obtain ⟨A', B, r', b1, b2, b3, b4, b5, b6, b7, b8⟩ := l_valley hA1 (d + 16) (d + 16) (by omega) (by omega) x0 z0
  have e := a1.symm.trans b1
  injection e with e
  injection e with e1 e2
  injection e1 with _ e1
  injection e1 with e1 _
  subst e1
  subst e2
  have c12 : ∀ x y, (zVc x y → ¬ zVr x y) := fun x y h => by unfold zVc at h; unfold zVr; omega
  refine ⟨r, A, B, a1, b2, ⟨?_, ?_, fun i i0 i1 => ?_⟩, ?_, ?_, fun x y h => ?_⟩
  · rw [b4 2 1 (by unfold zVr; omega), b5]; omega
  · rw [b4 2 1 (by unfold zVr; omega), b5, b6]
  · rw [b4 198 i (by unfold zVr; omega), b4 3 i (by unfold zVr; omega), a2 198 i (by unfold zVc; omega), a2 3 i (by unfold zVc; omega)]
    exact hA.2.2 i i0 i1
  · rcases b8 with b8 | ⟨b8, b9⟩
    · have hX := vl_relX (M2 := B) b8 (fun x y h1 h2 => b4 x y (by unfold zVr; omega)) (fun _ _ _ => rfl)
      obtain ⟨n1, n2, -⟩ := b8
      have e13 : B 0 13 = 0 := by rw [b4 _ _ (by unfold zVr; omega)]; exact n1
      have r77 : ∀ i, B 77 i = M 77 i := fun i => by rw [b4 _ _ (by unfold zVr; omega)]; exact a2 _ _ (by unfold zVc; omega)
      exact relZ_0 (Or.inl hX) e13 n2 (okP_eq r77 (relZ_b hZ).2.2)
    · refine relZ_fr hZ (fun x y h => ?_)
      by_cases c : x = 197 ∨ x = 199 ∨ x = 204
      · rw [b9 x y (by omega)]
        exact a2 x y (by unfold zVc; omega)
      · rw [b4 x y (by unfold zVr; omega)]
        by_cases c2 : x = 0 ∨ (30 ≤ x ∧ x ≤ 46)
        · exact b8 x y (by omega)
        · exact a2 x y (by unfold zVc; omega)
  · refine relH_fr hH (fun x y h => ?_) ?_
    · rw [b4 x y (by unfold zVr; omega)]
      exact a2 x y (by unfold zVc; omega)
    · rw [b4 51 0 (by unfold zVr; omega)]
      exact b7.symm
  · rw [b4 x y (fun z => h (Or.inr z))]
    exact a2 x y (fun z => h (Or.inl z))
