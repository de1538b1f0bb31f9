/-! images: what is kept, and the pairs -/
noncomputable def zRG (R : Int → Int) : zM := fun i y => zif (gdom (R 1) i y) (R (gix i y)) 0
noncomputable def zRS (R : Int → Int) : zM := fun i y => zif (sdom i y) (R (rix i y)) 0
theorem zRG_eq {R R' : Int → Int} (h : ∀ y, 0 ≤ y → y < 75 → R' y = R y) : zRG R' = zRG R := by
  have e : R' 1 = R 1 := h 1 (by omega) (by omega)
  funext i y
  unfold zRG
  rw [e]
  by_cases hd : gdom (R 1) i y
  · have := gix_bd hd
    rw [zif_t hd, zif_t hd, h _ (by omega) (by omega)]
  · rw [zif_f hd, zif_f hd]
theorem zRS_eq {R R' : Int → Int} (h : ∀ y, 75 ≤ y → y ≤ 125 → R' y = R y) : zRS R' = zRS R := by
  funext i y
  unfold zRS
  by_cases hd : sdom i y
  · have := rix_bd hd
    rw [zif_t hd, zif_t hd, h _ (by omega) (by omega)]
  · rw [zif_f hd, zif_f hd]
def relM (M : zM) (l : Int) (N : Int → Int) : Prop := (∀ k, 0 ≤ k → k < M l 6 → nmR (M (l + 1) k) (N k)) ∧ (∀ k, 0 ≤ k → k < M l 7 → nmR (M (l + 2) k) (N (5 + k))) ∧ ∀ k, 0 ≤ k → k < M l 8 → nmR (M (l + 3) k) (N (15 + k))
def relX (M : zM) (l s g : Int) (R N : Int → Int) : Prop := (zRG R = zvG M l ∧ okG (zvG M l)) ∧ (zRS R = zvS M s ∧ okT (zvS M s) (zvG M l) ∧ R 78 = zfl (sPut (zvS M s) (zvG M l))) ∧ relM M l N ∧ relN M g R
theorem gR_eq {K U Z R K' U' Z' R' : Int → Int} (hK : ∀ j, 0 ≤ j → j < 40 → K' j = K j) (hU : ∀ j, 0 ≤ j → j < 40 → U' j = U j) (hZ : ∀ j, 0 ≤ j → j < 40 → Z' j = Z j) (hR : ∀ j, 128 ≤ j → j < 368 → R' j = R j) : ∀ (n : Nat) (f t k : Int), gR K U Z R n f t k → gR K' U' Z' R' n f t k
  | 0, f, t, k, h => by cases h
  | n + 1, f, t, k, h => by
    obtain ⟨⟨k0, k1⟩, ⟨f0, f1⟩, h⟩ := h
    refine ⟨⟨k0, k1⟩, ⟨f0, f1⟩, ?_⟩
    rw [hR (128 + 4 * k) (by omega) (by omega), hR (128 + 4 * k + 1) (by omega) (by omega), hR (128 + 4 * k + 2) (by omega) (by omega), hR (128 + 4 * k + 3) (by omega) (by omega)]
    rcases h with ⟨p1, p2⟩ | ⟨p1, p2, p3, p4⟩ | ⟨m, p1, p2, p3, p4, p5⟩
    · refine Or.inl ⟨p1, ?_⟩
      rw [hK f f0 (by omega), hU f f0 (by omega), hZ f f0 (by omega)]
      exact p2
    · refine Or.inr (Or.inl ⟨p1, ?_, p3, gR_eq hK hU hZ hR n _ _ _ p4⟩)
      rw [hK (t - 1) (by omega) (by omega)]
      exact p2
    · refine Or.inr (Or.inr ⟨m, p1, p2, ?_, gR_eq hK hU hZ hR n _ _ _ p4, gR_eq hK hU hZ hR n _ _ _ p5⟩)
      rw [hK (t - 1) (by omega) (by omega)]
      exact p3
theorem relN_eq {M M' : zM} {g g' : Int} {R R' : Int → Int} (h : relN M g R) (h4 : M' g' 4 = M g 4) (h5 : M' g' 5 = M g 5) (h1 : ∀ j, 0 ≤ j → j < 40 → M' (g' + 1) j = M (g + 1) j) (h2 : ∀ j, 0 ≤ j → j < 40 → M' (g' + 2) j = M (g + 2) j) (h3 : ∀ j, 0 ≤ j → j < 40 → M' (g' + 3) j = M (g + 3) j) (hR : ∀ j, 126 ≤ j → j < 368 → R' j = R j) : relN M' g' R' := by
  unfold relN
  rw [h4, h5, hR 126 (by omega) (by omega), hR 127 (by omega) (by omega)]
  rcases h with h | ⟨ha, hb, n, hn, hc⟩
  · exact Or.inl h
  · exact Or.inr ⟨ha, hb, n, hn, gR_eq h1 h2 h3 (fun j j0 j1 => hR j (by omega) j1) n _ _ _ hc⟩
theorem relX_eq {M M' : zM} {l s g l' s' g' : Int} {R R' N N' : Int → Int} (h : relX M l s g R N) (hl : zvG M' l' = zvG M l) (hs : zvS M' s' = zvS M s) (h6 : M' l' 6 = M l 6) (h7 : M' l' 7 = M l 7) (h8 : M' l' 8 = M l 8) (m1 : ∀ j, 0 ≤ j → j < 5 → M' (l' + 1) j = M (l + 1) j) (m2 : ∀ j, 0 ≤ j → j < 10 → M' (l' + 2) j = M (l + 2) j) (m3 : ∀ j, 0 ≤ j → j < 5 → M' (l' + 3) j = M (l + 3) j) (h4 : M' g' 4 = M g 4) (h5 : M' g' 5 = M g 5) (k1 : ∀ j, 0 ≤ j → j < 40 → M' (g' + 1) j = M (g + 1) j) (k2 : ∀ j, 0 ≤ j → j < 40 → M' (g' + 2) j = M (g + 2) j) (k3 : ∀ j, 0 ≤ j → j < 40 → M' (g' + 3) j = M (g + 3) j) (hR : ∀ j, 0 ≤ j → j < 368 → R' j = R j) (hN : ∀ j, 0 ≤ j → j < 20 → N' j = N j) : relX M' l' s' g' R' N' := by
  obtain ⟨⟨a1, a2⟩, ⟨b1, b2, b3⟩, ⟨c1, c2, c3⟩, d1⟩ := h
  obtain ⟨⟨g6, g6'⟩, ⟨g1, g2⟩, ⟨g3, g4⟩, -⟩ := okG_M a2
  refine ⟨⟨?_, by rw [hl]; exact a2⟩, ⟨?_, by rw [hs, hl]; exact b2, by rw [hs, hl, hR 78 (by omega) (by omega)]; exact b3⟩, ⟨fun k p0 p1 => ?_, fun k p0 p1 => ?_, fun k p0 p1 => ?_⟩, relN_eq d1 h4 h5 k1 k2 k3 (fun j j0 j1 => hR j (by omega) j1)⟩
  · rw [hl, zRG_eq (fun y y0 y1 => hR y y0 (by omega))]; exact a1
  · rw [hs, zRS_eq (fun y y0 y1 => hR y (by omega) (by omega))]; exact b1
  · rw [h6] at p1
    rw [m1 k p0 (by omega), hN k p0 (by omega)]; exact c1 k p0 p1
  · rw [h7] at p1
    rw [m2 k p0 (by omega), hN _ (by omega) (by omega)]; exact c2 k p0 p1
  · rw [h8] at p1
    rw [m3 k p0 (by omega), hN _ (by omega) (by omega)]; exact c3 k p0 p1
theorem zvG_cp {M : zM} {a b : Int} (ha : 0 ≤ a) (h : a + 7 ≤ b ∨ b + 7 ≤ a) : zvG (cpV M a b) a = zvG M b := by
  have e7 : cpV M a b a 7 = M b 7 := by
    unfold cpV
    simp (disch := omega) only [zup_e, zup_j]
  funext i y
  unfold zvG
  rw [e7]
  by_cases hd : gdom (M b 7) i y
  · rw [zif_t hd, zif_t hd]
    have hc : (i = 0 ∧ (y = 6 ∨ y = 7 ∨ y = 8 ∨ y = 9 ∨ y = 10 ∨ y = 11)) ∨ (i = 4 ∧ 0 ≤ y ∧ y < 10) ∨ (i = 5 ∧ 0 ≤ y ∧ y < 25) ∨ (i = 6 ∧ 0 ≤ y ∧ y < 2) := by unfold gdom at hd; omega
    unfold cpV
    rcases hc with ⟨rfl, rfl | rfl | rfl | rfl | rfl | rfl⟩ | ⟨rfl, h1, h2⟩ | ⟨rfl, h1, h2⟩ | ⟨rfl, h1, h2⟩ <;>
      simp (disch := omega) only [Int.add_zero, zup_e, zup_a, zup_j, zcpy_o, zcpy_i, Int.zero_add, Int.sub_zero]
  · rw [zif_f hd, zif_f hd]
theorem cpV_n {M : zM} {a b : Int} (ha : 0 ≤ a) (h : a + 7 ≤ b ∨ b + 7 ≤ a) : cpV M a b a 6 = M b 6 ∧ cpV M a b a 7 = M b 7 ∧ cpV M a b a 8 = M b 8 ∧ (∀ j, 0 ≤ j → j < 5 → cpV M a b (a + 1) j = M (b + 1) j) ∧ (∀ j, 0 ≤ j → j < 10 → cpV M a b (a + 2) j = M (b + 2) j) ∧ ∀ j, 0 ≤ j → j < 5 → cpV M a b (a + 3) j = M (b + 3) j := by
  unfold cpV
  refine ⟨?_, ?_, ?_, fun j h1 h2 => ?_, fun j h1 h2 => ?_, fun j h1 h2 => ?_⟩ <;>
    simp (disch := omega) only [zup_e, zup_a, zup_j, zcpy_o, zcpy_i, Int.zero_add, Int.sub_zero]
theorem cpN_n {M : zM} {a b : Int} (ha : 0 ≤ a) (h : a + 5 ≤ b ∨ b + 5 ≤ a) : cpN M a b a 4 = M b 4 ∧ cpN M a b a 5 = M b 5 ∧ (∀ j, 0 ≤ j → j < 40 → cpN M a b (a + 1) j = M (b + 1) j) ∧ (∀ j, 0 ≤ j → j < 40 → cpN M a b (a + 2) j = M (b + 2) j) ∧ ∀ j, 0 ≤ j → j < 40 → cpN M a b (a + 3) j = M (b + 3) j := by
  unfold cpN
  refine ⟨?_, ?_, fun j h1 h2 => ?_, fun j h1 h2 => ?_, fun j h1 h2 => ?_⟩ <;>
    simp (disch := omega) only [zup_e, zup_a, zup_j, zcpy_o, zcpy_i, Int.zero_add, Int.sub_zero]
/-- all three copied -/
def cpA (M : zM) (l l0 s s0 g g0 : Int) : zM := cpN (cpS (cpV M l l0) s s0) g g0
theorem cpA_o {M : zM} {l l0 s s0 g g0 x y : Int} (h1 : x < l ∨ l + 7 ≤ x) (h2 : x < s ∨ s + 9 ≤ x) (h3 : x < g ∨ g + 5 ≤ x) : cpA M l l0 s s0 g g0 x y = M x y := by
  unfold cpA
  rw [cpN_o h3, cpS_o h2, cpV_o h1]
theorem relX_cpA {M : zM} {l l0 s s0 g g0 : Int} {R N R' N' : Int → Int} (h : relX M l0 s0 g0 R N) (hl : 0 ≤ l ∧ l + 7 ≤ s ∧ s + 9 ≤ g) (hl0 : 0 ≤ l0 ∧ l0 + 7 ≤ s0 ∧ s0 + 9 ≤ g0) (hs : g + 5 ≤ l0 ∨ g0 + 5 ≤ l) (A : zM) (hA : ∀ x y, l ≤ x → x < g + 5 → A x y = cpA M l l0 s s0 g g0 x y) (hR : ∀ j, 0 ≤ j → j < 368 → R' j = R j) (hN : ∀ j, 0 ≤ j → j < 20 → N' j = N j) : relX A l s g R' N' := by
  obtain ⟨v1, v2, v3, v4, v5, v6⟩ := cpV_n (M := M) (a := l) (b := l0) (by omega) (by omega)
  obtain ⟨n1, n2, n3, n4, n5⟩ := cpN_n (M := cpS (cpV M l l0) s s0) (a := g) (b := g0) (by omega) (by omega)
  have o : ∀ x y, l ≤ x → x < l + 7 → A x y = cpV M l l0 x y := fun x y h1 h2 => by
    rw [hA x y h1 (by omega)]
    unfold cpA
    rw [cpN_o (by omega), cpS_o (by omega)]
  have p : ∀ x y, g ≤ x → x < g + 5 → A x y = cpN (cpS (cpV M l l0) s s0) g g0 x y := fun x y h1 h2 => hA x y (by omega) h2
  have q : ∀ x y, g0 ≤ x → x < g0 + 5 → cpS (cpV M l l0) s s0 x y = M x y := fun x y h1 h2 => by rw [cpS_o (by omega), cpV_o (by omega)]
  refine relX_eq h ?_ ?_ ?_ ?_ ?_ (fun j h1 h2 => ?_) (fun j h1 h2 => ?_) (fun j h1 h2 => ?_) ?_ ?_ (fun j h1 h2 => ?_) (fun j h1 h2 => ?_) (fun j h1 h2 => ?_) hR hN
  · rw [zvG_eq (M := cpV M l l0) (fun x y h1 h2 => o x y h1 h2)]
    exact zvG_cp (by omega) (by omega)
  · rw [zvS_eq (M := cpS (cpV M l l0) s s0) (fun x y h1 h2 => by
      rw [hA x y (by omega) (by omega)]
      unfold cpA
      rw [cpN_o (by omega)]), zvS_cp (by omega) (by omega)]
    exact zvS_eq (fun x y h1 h2 => cpV_o (by omega))
  · rw [o _ _ (by omega) (by omega)]; exact v1
  · rw [o _ _ (by omega) (by omega)]; exact v2
  · rw [o _ _ (by omega) (by omega)]; exact v3
  · rw [o _ _ (by omega) (by omega)]; exact v4 j h1 h2
  · rw [o _ _ (by omega) (by omega)]; exact v5 j h1 h2
  · rw [o _ _ (by omega) (by omega)]; exact v6 j h1 h2
  · rw [p _ _ (by omega) (by omega), n1]; exact q _ _ (by omega) (by omega)
  · rw [p _ _ (by omega) (by omega), n2]; exact q _ _ (by omega) (by omega)
  · rw [p _ _ (by omega) (by omega), n3 j h1 h2]; exact q _ _ (by omega) (by omega)
  · rw [p _ _ (by omega) (by omega), n4 j h1 h2]; exact q _ _ (by omega) (by omega)
  · rw [p _ _ (by omega) (by omega), n5 j h1 h2]; exact q _ _ (by omega) (by omega)
theorem relX_of {M : zM} (hC : relC M) (hE : relE M) (hD : relD M) (hG : relG M) : relX M 30 37 46 (M 199) (M 204) := ⟨hC, hE, hD, hG⟩
theorem relX_to {M : zM} (h : relX M 30 37 46 (M 199) (M 204)) : relC M ∧ relE M ∧ relD M ∧ relG M := ⟨h.1, h.2.1, h.2.2.1, h.2.2.2⟩
theorem relX_fr {M M' : zM} {l s g : Int} {R N R' N' : Int → Int} (h : relX M l s g R N) (hl : ∀ x y, l ≤ x → x < l + 7 → M' x y = M x y) (hs : ∀ x y, s ≤ x → x < s + 9 → M' x y = M x y) (hg : ∀ x y, g ≤ x → x < g + 4 → M' x y = M x y) (hR : ∀ j, 0 ≤ j → j < 368 → R' j = R j) (hN : ∀ j, 0 ≤ j → j < 20 → N' j = N j) : relX M' l s g R' N' :=
  relX_eq h (zvG_eq hl) (zvS_eq hs) (hl _ _ (by omega) (by omega)) (hl _ _ (by omega) (by omega)) (hl _ _ (by omega) (by omega)) (fun j _ _ => hl _ _ (by omega) (by omega)) (fun j _ _ => hl _ _ (by omega) (by omega)) (fun j _ _ => hl _ _ (by omega) (by omega)) (hg _ _ (by omega) (by omega)) (hg _ _ (by omega) (by omega)) (fun j _ _ => hg _ _ (by omega) (by omega)) (fun j _ _ => hg _ _ (by omega) (by omega)) (fun j _ _ => hg _ _ (by omega) (by omega)) hR hN
def relJ1 (M : zM) (k : Int) : Prop := M 78 k = 153 + 22 * k ∧ ((M (153 + 22 * k) 3 = 0 ∧ M 207 k = 0) ∨ ((M (153 + 22 * k) 3 = 1 ∧ M 207 k = 1) ∧ relX M (153 + 22 * k + 1) (153 + 22 * k + 8) (153 + 22 * k + 17) (fun y => M 201 (368 * k + y)) (fun y => M 206 (20 * k + y))))
def relJ (M : zM) : Prop := ∀ k, 0 ≤ k → k ≤ 1 → relJ1 M k
theorem relJ1_fr {M M' : zM} {k : Int} (h : relJ1 M k) (k0 : 0 ≤ k) (k1 : k ≤ 1) (h78 : M' 78 k = M 78 k) (hx : ∀ x y, 153 + 22 * k ≤ x → x < 153 + 22 * k + 22 → M' x y = M x y) (h1 : ∀ y, 368 * k ≤ y → y < 368 * k + 368 → M' 201 y = M 201 y) (h6 : ∀ y, 20 * k ≤ y → y < 20 * k + 20 → M' 206 y = M 206 y) (h7 : M' 207 k = M 207 k) : relJ1 M' k := by
  unfold relJ1
  rw [h78, h7, hx _ 3 (by omega) (by omega)]
  refine ⟨h.1, ?_⟩
  rcases h.2 with h | ⟨h, hX⟩
  · exact Or.inl h
  · exact Or.inr ⟨h, relX_fr hX (fun x y p1 p2 => hx x y (by omega) (by omega)) (fun x y p1 p2 => hx x y (by omega) (by omega)) (fun x y p1 p2 => hx x y (by omega) (by omega)) (fun j j0 j1 => h1 _ (by omega) (by omega)) (fun j j0 j1 => h6 _ (by omega) (by omega))⟩
def zFJ (x y : Int) : Prop := (153 ≤ x ∧ x ≤ 196) ∨ (x = 197 ∧ y = 0) ∨ x = 201 ∨ x = 206 ∨ x = 207
def zPairJ (M : zM) (cc : zO) (rc : zM → zO) : Prop := ∃ v M1 M2, cc = some ((0, v, 0), M1) ∧ rc M1 = some ((0, v, 0), M2) ∧ relJ M2 ∧ ∀ x y, ¬ zFJ x y → M2 x y = M x y
theorem pair_image (d : Nat) (x0 z0 k y1 z1 : Int) (M : zM) (hX : relX M 30 37 46 (M 199) (M 204)) (hJ : relJ M) : zPairJ M (zEm true (d + 8) 43 [(29, 0, x0), (0, k, y1)] M) (fun M1 => zEm true (d + 8) 297 [(30, 197, z0), (0, k, z1)] M1) := by
  have ha : 0 ≤ k → k ≤ 1 → M 78 k = 153 + 22 * k ∧ 60 ≤ 153 + 22 * k := fun k0 k1 => ⟨(hJ k k0 k1).1, by omega⟩
  obtain ⟨c1, c2⟩ := c_image d x0 k y1 (153 + 22 * k) M ha
  by_cases c : 0 ≤ k ∧ k ≤ 1
  · have c2 := c2 c
    have eA : cImg M (153 + 22 * k) = zup (cpA M (153 + 22 * k + 1) 30 (153 + 22 * k + 8) 37 (153 + 22 * k + 17) 46) (153 + 22 * k) 3 1 := rfl
    obtain ⟨A, hA⟩ : ∃ A, A = cImg M (153 + 22 * k) := ⟨_, rfl⟩
    have oA : ∀ x y, ¬ (153 + 22 * k ≤ x ∧ x < 153 + 22 * k + 22) → A x y = M x y := fun x y h => by
      rw [hA, eA, zup_a (by omega), cpA_o (by omega) (by omega) (by omega)]
    rw [← hA] at c2
    obtain ⟨-, r2⟩ := r_image d z0 k z1 A
    obtain ⟨B, b1, b2, b3, b4, b5⟩ := r2 c
    have oB : ∀ x y, ¬ (x = 197 ∧ y = 0) → x ≠ 207 → x ≠ 201 → x ≠ 206 → B x y = A x y := fun x y h1 h2 h3 h4 => b5 x y h1 (fun z => h2 z.1) (fun z => h3 z.1) (fun z => h4 z.1)
    refine ⟨1, A, B, c2, b1, fun k' k0 k1 => ?_, fun x y h => ?_⟩
    · by_cases e : k' = k
      · subst e
        refine ⟨by rw [oB _ _ (by omega) (by omega) (by omega) (by omega), oA _ _ (by omega)]; exact (hJ k' k0 k1).1, Or.inr ⟨⟨?_, b2⟩, ?_⟩⟩
        · rw [oB _ _ (by omega) (by omega) (by omega) (by omega), hA, eA]
          exact zup_e (by omega)
        · refine relX_cpA hX (by omega) (by omega) (by omega) B (fun x y p1 p2 => ?_) (fun j j0 j1 => ?_) (fun j j0 j1 => ?_)
          · rw [oB _ _ (by omega) (by omega) (by omega) (by omega), hA, eA, zup_a (by omega)]
          · rw [b3 j j0 j1, oA _ _ (by omega)]
          · rw [b4 j j0 j1, oA _ _ (by omega)]
      · refine relJ1_fr (hJ k' k0 k1) k0 k1 ?_ (fun x y p1 p2 => ?_) (fun y p1 p2 => ?_) (fun y p1 p2 => ?_) ?_
        · rw [oB _ _ (by omega) (by omega) (by omega) (by omega), oA _ _ (by omega)]
        · rw [oB _ _ (by omega) (by omega) (by omega) (by omega), oA _ _ (by omega)]
        · rw [b5 _ _ (by omega) (by omega) (by omega) (by omega), oA _ _ (by omega)]
        · rw [b5 _ _ (by omega) (by omega) (by omega) (by omega), oA _ _ (by omega)]
        · rw [b5 _ _ (by omega) (by omega) (by omega) (by omega), oA _ _ (by omega)]
    · unfold zFJ at h
      rw [oB _ _ (by omega) (by omega) (by omega) (by omega), oA _ _ (by omega)]
  · refine ⟨0, M, _, c1 c, (r_image d z0 k z1 M).1 c, fun k' k0 k1 => ?_, fun x y h => ?_⟩
    · refine relJ1_fr (hJ k' k0 k1) k0 k1 (zup_a (by omega)) (fun x y p1 p2 => ?_) (fun y p1 p2 => zup_a (by omega)) (fun y p1 p2 => zup_a (by omega)) (zup_a (by omega))
      unfold zup; rw [if_neg (by omega)]
    · unfold zFJ at h
      unfold zup; rw [if_neg (by omega)]
def zFX (x y : Int) : Prop := (30 ≤ x ∧ x ≤ 50) ∨ (x = 0 ∧ y = 13) ∨ (x = 197 ∧ (y = 0 ∨ y = 24)) ∨ x = 199 ∨ x = 204
def zPairX (M : zM) (cc : zO) (rc : zM → zO) : Prop := ∃ v M1 M2, cc = some ((0, v, 0), M1) ∧ rc M1 = some ((0, v, 0), M2) ∧ relX M2 30 37 46 (M2 199) (M2 204) ∧ relF M2 ∧ ∀ x y, ¬ zFX x y → M2 x y = M x y
theorem pair_restore (d : Nat) (x0 z0 k y1 z1 : Int) (M : zM) (hX : relX M 30 37 46 (M 199) (M 204)) (hF : relF M) (hJ : relJ M) : zPairX M (zEm true (d + 8) 44 [(29, 0, x0), (0, k, y1)] M) (fun M1 => zEm true (d + 8) 298 [(30, 197, z0), (0, k, z1)] M1) := by
  have ha : 0 ≤ k → k ≤ 1 → M 78 k = 153 + 22 * k ∧ 81 ≤ 153 + 22 * k := fun k0 k1 => ⟨(hJ k k0 k1).1, by omega⟩
  obtain ⟨c1, c2⟩ := c_restore d x0 k y1 (153 + 22 * k) M ha
  by_cases c : (0 ≤ k ∧ k ≤ 1) ∧ M (153 + 22 * k) 3 ≠ 0
  · have c2 := c2 c
    obtain ⟨⟨k0, k1⟩, c3⟩ := c
    obtain ⟨j1, j2⟩ := hJ k k0 k1
    rcases j2 with ⟨j2, -⟩ | ⟨⟨j2, j3⟩, jX⟩
    · exact absurd j2 c3
    have eA : cRes M (153 + 22 * k) = zup (cpA M 30 (153 + 22 * k + 1) 37 (153 + 22 * k + 8) 46 (153 + 22 * k + 17)) 0 13 0 := rfl
    obtain ⟨A, hA⟩ : ∃ A, A = cRes M (153 + 22 * k) := ⟨_, rfl⟩
    have oA : ∀ x y, ¬ (30 ≤ x ∧ x ≤ 50) → ¬ (x = 0 ∧ y = 13) → A x y = M x y := fun x y h h2 => by
      rw [hA, eA]
      have : ∀ N : zM, zup N 0 13 0 x y = N x y := fun N => by unfold zup; rw [if_neg (fun z => h2 ⟨z.1, z.2.1⟩)]
      rw [this, cpA_o (by omega) (by omega) (by omega)]
    rw [← hA] at c2
    have r2 := (r_restore d z0 k z1 A).2 ⟨⟨k0, k1⟩, by rw [oA _ _ (by omega) (by omega), j3]; omega⟩
    obtain ⟨B, b1, b2, b3, b4, b5⟩ := r2
    obtain ⟨⟨f1, f1'⟩, f2, f3, f4⟩ := hF
    have e77 : ∀ i, B 77 i = M 77 i := fun i => by rw [b5 _ _ (by omega) (by omega) (by omega), oA _ _ (by omega) (by omega)]
    have e13 : B 0 13 = 0 := by rw [b5 _ _ (by omega) (by omega) (by omega), hA, eA]; exact zup_e (by omega)
    refine ⟨1, A, B, c2, b1, ?_, ⟨by rw [e13]; omega, by rw [b2, e13], okP_eq e77 f3, fun i i0 i1 => by rw [e13] at i1; omega⟩, fun x y h => ?_⟩
    · refine relX_cpA jX (by omega) (by omega) (by omega) B (fun x y p1 p2 => ?_) (fun j j0 j1 => ?_) (fun j j0 j1 => ?_)
      · rw [b5 _ _ (by omega) (by omega) (by omega), hA, eA, zup_a (by omega)]
      · rw [b3 j j0 j1, oA _ _ (by omega) (by omega)]
      · rw [b4 j j0 j1, oA _ _ (by omega) (by omega)]
    · unfold zFX at h
      rw [b5 _ _ (by omega) (by omega) (by omega), oA _ _ (by omega) (by omega)]
  · have hr : ¬ ((0 ≤ k ∧ k ≤ 1) ∧ M 207 k ≠ 0) := by
      rintro ⟨k01, h⟩
      obtain ⟨-, j2⟩ := hJ k k01.1 k01.2
      rcases j2 with ⟨-, j3⟩ | ⟨⟨j3, -⟩, -⟩
      · exact h j3
      · exact c ⟨k01, by rw [j3]; omega⟩
    refine ⟨0, M, _, c1 c, (r_restore d z0 k z1 M).1 hr, ?_, ?_, fun x y h => ?_⟩
    · refine relX_fr hX (fun x y p1 p2 => zup_a (by omega)) (fun x y p1 p2 => zup_a (by omega)) (fun x y p1 p2 => zup_a (by omega)) (fun j _ _ => zup_a (by omega)) (fun j _ _ => zup_a (by omega))
    · obtain ⟨hC, hE, -, -⟩ := relX_to hX
      exact (rel_keep hC hE hF (fun x y h => by unfold zup; rw [if_neg (by omega)])).2.2
    · unfold zFX at h
      unfold zup; rw [if_neg (by omega)]
