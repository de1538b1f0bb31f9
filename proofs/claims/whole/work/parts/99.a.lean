/-! days, days by draws: both -/
theorem c_doneB (d : Nat) (x0 : Int) (M S' : zM) (N : zM) (hN : ∀ x y, ¬ (x = 0 ∧ y = 14) → N x y = cpS M 59 37 x y) (hz : zt S' = S') (n0 : 0 ≤ M 0 13) (n1 : M 0 13 ≤ 8) (hp : okP M) : ∃ M', zEm true (d + 2) 51 [(29, 0, x0)] (zput N 37 S') = some ((98, 0, 0), M') ∧ (∀ x y, ¬ (x = 0 ∧ y = 14) → ¬ zFC x y → M' x y = M x y) ∧ zvS M' 37 = S' ∧ okP M' ∧ M' 0 13 = (if M 0 13 = 8 then 8 else M 0 13 + 1) ∧ zvS M' (M' 77 (M' 0 13 - 1)) = zvS M 37 ∧ ∀ i, 0 ≤ i → i < M' 0 13 - 1 → zvS M' (M' 77 i) = zvS M (M 77 (if M 0 13 = 8 then i + 1 else i)) := by
  have ho : ∀ x y, ¬ ((37 ≤ x ∧ x ≤ 45) ∨ (59 ≤ x ∧ x ≤ 67)) → ¬ (x = 0 ∧ y = 14) → zput N 37 S' x y = M x y := fun x y h h2 => by rw [zput_o (by omega), hN x y h2, cpS_o (by omega)]
  have e13 := ho 0 13 (by omega) (by omega)
  have e77 : ∀ i, zput N 37 S' 77 i = M 77 i := fun i => ho 77 i (by omega) (by omega)
  obtain ⟨M', h1, k1, k2, k3, k4, k5⟩ := c_keepBefore d x0 (zput N 37 S') (by rw [e13]; exact n0) (by rw [e13]; exact n1) (okP_eq e77 hp)
  refine ⟨M', h1, fun x y h2 h => ?_, ?_, k2, ?_, ?_, fun i i0 i1 => ?_⟩
  · unfold zFC at h
    rw [k1 x y (by omega), ho x y (by omega) h2]
  · have : zvS M' 37 = zvS (zput N 37 S') 37 := zvS_eq (fun x y h1 h2 => k1 x y (by omega))
    rw [this, zvS_put, hz]
  · rw [k3, e13]
  · rw [k4, zvS_puto (by omega), zvS_eq (M := cpS M 59 37) (fun x y h1 h2 => hN x y (by omega)), zvS_cp (by omega) (by omega)]
  · have h13 : M' 0 13 = if M 0 13 = 8 then 8 else M 0 13 + 1 := by rw [k3, e13]
    have hx : 0 ≤ (if M 0 13 = 8 then i + 1 else i) ∧ (if M 0 13 = 8 then i + 1 else i) < 8 := by
      by_cases c : M 0 13 = 8
      · rw [if_pos c] at h13 ⊢; omega
      · rw [if_neg c] at h13 ⊢; omega
    have hq := hp.1 _ hx.1 hx.2
    rw [k5 i i0 i1, e13, e77]
    exact zvS_eq (fun x y h1 h2 => ho x y (by omega) (by omega))
/-- behind an act of several days: as a relation -/
def zFD (x y : Int) : Prop := zFA x y ∨ (x = 0 ∧ y = 14) ∨ (x = 197 ∧ y = 40) ∨ (59 ≤ x ∧ x ≤ 76) ∨ x = 203
def zPairD (M : zM) (cc : zO) (rc : zM → zO) : Prop := ∃ v M1 M2, cc = some ((0, v, 0), M1) ∧ rc M1 = some ((0, v, 0), M2) ∧ relC M2 ∧ relE M2 ∧ relF M2 ∧ ∀ x y, ¬ zFD x y → M2 x y = M x y
theorem zPairD_of {M : zM} {cc : zO} {rc : zM → zO} (h : zPair M cc rc) : zPairD M cc rc := by
  obtain ⟨v, M1, M2, h1, h2, h3, h4, h5, h6⟩ := h
  exact ⟨v, M1, M2, h1, h2, h3, h4, h5, fun x y hx => h6 x y (fun z => hx (Or.inl z))⟩
theorem pair_doneB {M S' M1 M2 : zM} {fl : Int} (hC : relC M) (hE : relE M) (hF : relF M)
    (c1 : ∀ x y, ¬ (x = 0 ∧ y = 14) → ¬ zFC x y → M1 x y = M x y) (c2 : zvS M1 37 = S') (c3 : okP M1) (c4 : M1 0 13 = (if M 0 13 = 8 then 8 else M 0 13 + 1)) (c5 : zvS M1 (M1 77 (M1 0 13 - 1)) = zvS M 37) (c6 : ∀ i, 0 ≤ i → i < M1 0 13 - 1 → zvS M1 (M1 77 i) = zvS M (M 77 (if M 0 13 = 8 then i + 1 else i)))
    (r1 : ∀ x y, ¬ (x = 199 ∧ 75 ≤ y ∧ y ≤ 125) → ¬ (x = 197 ∧ y = 40) → M2 x y = mSnap (zup M1 197 0 0) x y) (r2 : zrS M2 = S') (r3 : M2 199 78 = fl) (hok : okT S' (zvG M 30)) (hfl : fl = zfl (sPut S' (zvG M 30))) : relC M2 ∧ relE M2 ∧ relF M2 ∧ ∀ x y, ¬ zFD x y → M2 x y = M x y := by
  have hF2 := hF
  obtain ⟨⟨f0, f1⟩, f2, f3, f4⟩ := hF2
  obtain ⟨M0, hM0⟩ : ∃ M0, M0 = zup M 0 14 (M1 0 14) := ⟨_, rfl⟩
  have e0 : ∀ x y, ¬ (x = 0 ∧ y = 14) → M0 x y = M x y := fun x y h => by rw [hM0]; unfold zup; rw [if_neg (fun z => h ⟨z.1, z.2.1⟩)]
  obtain ⟨hC0, hE0, hF0⟩ := rel_keep (M' := M0) hC hE hF (fun x y h => e0 x y (by omega))
  have hc : cDone M0 S' M1 := by
    have v37 : zvS M0 37 = zvS M 37 := zvS_eq (fun x y h1 h2 => e0 x y (by omega))
    refine ⟨fun x y h => ?_, c2, c3, by rw [c4, e0 0 13 (by omega)], by rw [c5, v37], fun i i0 i1 => ?_⟩
    · by_cases c : x = 0 ∧ y = 14
      · rw [c.1, c.2, hM0, zup_e (by omega)]
      · rw [c1 x y c h, e0 x y c]
    · have hn : 0 ≤ (if M 0 13 = 8 then i + 1 else i) ∧ (if M 0 13 = 8 then i + 1 else i) < 8 := by
        by_cases c : M 0 13 = 8
        · rw [if_pos c] at c4 ⊢; omega
        · rw [if_neg c] at c4 ⊢; omega
      have hq := f3.1 _ hn.1 hn.2
      rw [c6 i i0 i1, e0 0 13 (by omega), e0 77 _ (by omega)]
      exact (zvS_eq (fun x y h1 h2 => e0 x y (by omega))).symm
  obtain ⟨Z, hZ⟩ : ∃ Z, Z = zup M2 197 40 (M1 197 40) := ⟨_, rfl⟩
  have eZ : ∀ x y, ¬ (x = 197 ∧ y = 40) → Z x y = M2 x y := fun x y h => by rw [hZ]; unfold zup; rw [if_neg (fun z => h ⟨z.1, z.2.1⟩)]
  have n24 : M1 197 24 = M 197 24 := c1 197 24 (by omega) (by unfold zFC; omega)
  have e24 : zup M1 197 0 0 197 24 = M1 197 24 := zup_j (by omega)
  have hsn := mSnap_ok (M := zup M1 197 0 0) (by rw [e24]; omega) (by rw [e24]; omega)
  have hr : rDone M1 S' fl Z := by
    obtain ⟨k1, k2, k3, k4, k5⟩ := hsn
    rw [e24] at k2 k5
    have e3 : zrS (zup M1 197 0 0) = zrS M1 := zrS_out (Or.inl (by omega))
    have e4 : ∀ o, zsS (zup M1 197 0 0) o = zsS M1 o := fun o => zsS_eq (fun y _ _ => zup_a (by omega))
    have z202 : ∀ y, Z 202 y = mSnap (zup M1 197 0 0) 202 y := fun y => by rw [eZ _ _ (by omega), r1 _ _ (by omega) (by omega)]
    have z24 : Z 197 24 = mSnap (zup M1 197 0 0) 197 24 := by rw [eZ _ _ (by omega), r1 _ _ (by omega) (by omega)]
    have zs : ∀ o, zsS Z o = zsS (mSnap (zup M1 197 0 0)) o := fun o => zsS_eq (fun y _ _ => z202 y)
    refine ⟨fun x y h => ?_, ?_, by rw [eZ _ _ (by omega)]; exact r3, by rw [z24, k2], by rw [z24, zs, k3, e3], by rw [z24, z202, k4, zup_a (by omega)], fun i i0 i1 => ?_⟩
    · unfold zFR at h
      by_cases c : x = 197 ∧ y = 40
      · rw [c.1, c.2, hZ, zup_e (by omega)]
      · have : zup M1 197 0 0 x y = M1 x y := by unfold zup; rw [if_neg (by omega)]
        rw [eZ x y c, r1 x y (by omega) c, k1 x y (by omega), this]
    · rw [← r2]; exact zrS_eq (fun y _ _ _ => eZ 199 y (by omega))
    · rw [z24] at i1
      obtain ⟨a1, a2⟩ := k5 i i0 i1
      rw [zs, z202, a1, a2, e4, zup_a (by omega)]
      exact ⟨rfl, rfl⟩
  have g30 : zvG M0 30 = zvG M 30 := zvG_eq (fun x y h1 h2 => e0 x y (by omega))
  obtain ⟨p1, p2, p3, p4⟩ := pair_done hC0 hE0 hF0 hc hr (by rw [g30]; exact hok) (by rw [g30]; exact hfl)
  have eZ' : ∀ x y, ¬ (x = 197 ∧ y = 40) → M2 x y = Z x y := fun x y h => (eZ x y h).symm
  obtain ⟨q1, q2, q3⟩ := rel_keep (M' := M2) p1 p2 p3 (fun x y h => eZ' x y (by omega))
  refine ⟨q1, q2, q3, fun x y h => ?_⟩
  have h14 : ¬ (x = 0 ∧ y = 14) := fun z => h (Or.inr (Or.inl z))
  have h40 : ¬ (x = 197 ∧ y = 40) := fun z => h (Or.inr (Or.inr (Or.inl z)))
  have hA : ¬ zFA x y := fun z => h (Or.inl z)
  rw [eZ' x y h40, p4 x y hA, e0 x y h14]
theorem m37 (ph : Bool) (d : Nat) (a x0 p0 y0 p1 y1 : Int) (M : zM) : zEm ph (d + 1) 37 [(29, a, x0), (0, p0, y0), (0, p1, y1)] M = zEv ph d 37 0 [(29, a, x0), (0, p0, y0), (0, p1, y1), (3, 0, 0)] [] M := rfl
theorem e37_0 (ph : Bool) (d : Nat) (L st : List zV) (M : zM) : zEv ph d 37 0 L st M = zcont ph d 37 (zstep ph (zEm ph d) 2 1 0 [1] L st M) := zEv_step rfl
theorem e37_1 (ph : Bool) (d : Nat) (L st : List zV) (M : zM) : zEv ph d 37 1 L st M = zcont ph d 37 (zstep ph (zEm ph d) 0 2 0 [1] L st M) := zEv_step rfl
theorem e37_2 (ph : Bool) (d : Nat) (L st : List zV) (M : zM) : zEv ph d 37 2 L st M = zcont ph d 37 (zstep ph (zEm ph d) 48 5 21 [] L st M) := zEv_step rfl
theorem e37_5 (ph : Bool) (d : Nat) (L st : List zV) (M : zM) : zEv ph d 37 5 L st M = zcont ph d 37 (zstep ph (zEm ph d) 2 6 0 [1] L st M) := zEv_step rfl
theorem e37_6 (ph : Bool) (d : Nat) (L st : List zV) (M : zM) : zEv ph d 37 6 L st M = zcont ph d 37 (zstep ph (zEm ph d) 0 8 0 [60] L st M) := zEv_step rfl
theorem e37_8 (ph : Bool) (d : Nat) (L st : List zV) (M : zM) : zEv ph d 37 8 L st M = zcont ph d 37 (zstep ph (zEm ph d) 50 11 21 [] L st M) := zEv_step rfl
theorem e37_11 (ph : Bool) (d : Nat) (L st : List zV) (M : zM) : zEv ph d 37 11 L st M = zcont ph d 37 (zstep ph (zEm ph d) 4 12 0 [0] L st M) := zEv_step rfl
theorem e37_12 (ph : Bool) (d : Nat) (L st : List zV) (M : zM) : zEv ph d 37 12 L st M = zcont ph d 37 (zstep ph (zEm ph d) 62 15 0 [29, 2, 30, 28, 0] L st M) := zEv_step rfl
theorem e37_15 (ph : Bool) (d : Nat) (L st : List zV) (M : zM) : zEv ph d 37 15 L st M = zcont ph d 37 (zstep ph (zEm ph d) 60 18 0 [28, 7] L st M) := zEv_step rfl
theorem e37_18 (ph : Bool) (d : Nat) (L st : List zV) (M : zM) : zEv ph d 37 18 L st M = zcont ph d 37 (zstep ph (zEm ph d) 41 21 23 [] L st M) := zEv_step rfl
theorem e37_21 (ph : Bool) (d : Nat) (L st : List zV) (M : zM) : zEv ph d 37 21 L st M = zcont ph d 37 (zstep ph (zEm ph d) 0 22 0 [-1] L st M) := zEv_step rfl
theorem e37_22 (ph : Bool) (d : Nat) (L st : List zV) (M : zM) : zEv ph d 37 22 L st M = zcont ph d 37 (zstep ph (zEm ph d) 80 23 0 [] L st M) := zEv_step rfl
theorem e37_23 (ph : Bool) (d : Nat) (L st : List zV) (M : zM) : zEv ph d 37 23 L st M = zcont ph d 37 (zstep ph (zEm ph d) 4 24 0 [0] L st M) := zEv_step rfl
theorem e37_24 (ph : Bool) (d : Nat) (L st : List zV) (M : zM) : zEv ph d 37 24 L st M = zcont ph d 37 (zstep ph (zEm ph d) 62 27 0 [29, 7, 59, 26, 0] L st M) := zEv_step rfl
theorem e37_27 (ph : Bool) (d : Nat) (L st : List zV) (M : zM) : zEv ph d 37 27 L st M = zcont ph d 37 (zstep ph (zEm ph d) 4 28 0 [0] L st M) := zEv_step rfl
theorem e37_28 (ph : Bool) (d : Nat) (L st : List zV) (M : zM) : zEv ph d 37 28 L st M = zcont ph d 37 (zstep ph (zEm ph d) 62 31 0 [29, 3, 37, 26, 0] L st M) := zEv_step rfl
theorem e37_31 (ph : Bool) (d : Nat) (L st : List zV) (M : zM) : zEv ph d 37 31 L st M = zcont ph d 37 (zstep ph (zEm ph d) 70 34 113 [2, 0, 26] L st M) := zEv_step rfl
theorem e37_34 (ph : Bool) (d : Nat) (L st : List zV) (M : zM) : zEv ph d 37 34 L st M = zcont ph d 37 (zstep ph (zEm ph d) 4 35 0 [0] L st M) := zEv_step rfl
theorem e37_35 (ph : Bool) (d : Nat) (L st : List zV) (M : zM) : zEv ph d 37 35 L st M = zcont ph d 37 (zstep ph (zEm ph d) 4 36 0 [0] L st M) := zEv_step rfl
theorem e37_36 (ph : Bool) (d : Nat) (L st : List zV) (M : zM) : zEv ph d 37 36 L st M = zcont ph d 37 (zstep ph (zEm ph d) 62 39 0 [29, 3, 37, 26, 0] L st M) := zEv_step rfl
theorem e37_39 (ph : Bool) (d : Nat) (L st : List zV) (M : zM) : zEv ph d 37 39 L st M = zcont ph d 37 (zstep ph (zEm ph d) 2 40 0 [1] L st M) := zEv_step rfl
theorem e37_40 (ph : Bool) (d : Nat) (L st : List zV) (M : zM) : zEv ph d 37 40 L st M = zcont ph d 37 (zstep ph (zEm ph d) 2 41 0 [2] L st M) := zEv_step rfl
theorem e37_41 (ph : Bool) (d : Nat) (L st : List zV) (M : zM) : zEv ph d 37 41 L st M = zcont ph d 37 (zstep ph (zEm ph d) 70 44 61 [4, 1, 29] L st M) := zEv_step rfl
theorem e37_44 (ph : Bool) (d : Nat) (L st : List zV) (M : zM) : zEv ph d 37 44 L st M = zcont ph d 37 (zstep ph (zEm ph d) 5 45 0 [3] L st M) := zEv_step rfl
theorem e37_45 (ph : Bool) (d : Nat) (L st : List zV) (M : zM) : zEv ph d 37 45 L st M = zcont ph d 37 (zstep ph (zEm ph d) 2 46 0 [3] L st M) := zEv_step rfl
theorem e37_46 (ph : Bool) (d : Nat) (L st : List zV) (M : zM) : zEv ph d 37 46 L st M = zcont ph d 37 (zstep ph (zEm ph d) 45 49 53 [] L st M) := zEv_step rfl
theorem e37_49 (ph : Bool) (d : Nat) (L st : List zV) (M : zM) : zEv ph d 37 49 L st M = zcont ph d 37 (zstep ph (zEm ph d) 4 50 0 [0] L st M) := zEv_step rfl
theorem e37_50 (ph : Bool) (d : Nat) (L st : List zV) (M : zM) : zEv ph d 37 50 L st M = zcont ph d 37 (zstep ph (zEm ph d) 70 53 51 [1, 0, 29] L st M) := zEv_step rfl
theorem e37_53 (ph : Bool) (d : Nat) (L st : List zV) (M : zM) : zEv ph d 37 53 L st M = zcont ph d 37 (zstep ph (zEm ph d) 2 54 0 [3] L st M) := zEv_step rfl
theorem e37_54 (ph : Bool) (d : Nat) (L st : List zV) (M : zM) : zEv ph d 37 54 L st M = zcont ph d 37 (zstep ph (zEm ph d) 80 55 0 [] L st M) := zEv_step rfl
theorem m271 (ph : Bool) (d : Nat) (a x0 p0 y0 p1 y1 : Int) (M : zM) : zEm ph (d + 1) 271 [(30, a, x0), (0, p0, y0), (0, p1, y1)] M = zEv ph d 271 0 [(30, a, x0), (0, p0, y0), (0, p1, y1)] [] M := rfl
theorem e271_0 (ph : Bool) (d : Nat) (L st : List zV) (M : zM) : zEv ph d 271 0 L st M = zcont ph d 271 (zstep ph (zEm ph d) 4 1 0 [0] L st M) := zEv_step rfl
theorem e271_1 (ph : Bool) (d : Nat) (L st : List zV) (M : zM) : zEv ph d 271 1 L st M = zcont ph d 271 (zstep ph (zEm ph d) 0 2 0 [0] L st M) := zEv_step rfl
theorem e271_2 (ph : Bool) (d : Nat) (L st : List zV) (M : zM) : zEv ph d 271 2 L st M = zcont ph d 271 (zstep ph (zEm ph d) 65 5 0 [30, 0] L st M) := zEv_step rfl
theorem e271_5 (ph : Bool) (d : Nat) (L st : List zV) (M : zM) : zEv ph d 271 5 L st M = zcont ph d 271 (zstep ph (zEm ph d) 2 6 0 [1] L st M) := zEv_step rfl
theorem e271_6 (ph : Bool) (d : Nat) (L st : List zV) (M : zM) : zEv ph d 271 6 L st M = zcont ph d 271 (zstep ph (zEm ph d) 0 7 0 [1] L st M) := zEv_step rfl
theorem e271_7 (ph : Bool) (d : Nat) (L st : List zV) (M : zM) : zEv ph d 271 7 L st M = zcont ph d 271 (zstep ph (zEm ph d) 0 9 0 [60] L st M) := zEv_step rfl
theorem e271_9 (ph : Bool) (d : Nat) (L st : List zV) (M : zM) : zEv ph d 271 9 L st M = zcont ph d 271 (zstep ph (zEm ph d) 70 12 168 [3, 1, -1] L st M) := zEv_step rfl
theorem e271_12 (ph : Bool) (d : Nat) (L st : List zV) (M : zM) : zEv ph d 271 12 L st M = zcont ph d 271 (zstep ph (zEm ph d) 40 15 24 [] L st M) := zEv_step rfl
theorem e271_15 (ph : Bool) (d : Nat) (L st : List zV) (M : zM) : zEv ph d 271 15 L st M = zcont ph d 271 (zstep ph (zEm ph d) 4 16 0 [0] L st M) := zEv_step rfl
theorem e271_16 (ph : Bool) (d : Nat) (L st : List zV) (M : zM) : zEv ph d 271 16 L st M = zcont ph d 271 (zstep ph (zEm ph d) 62 19 0 [30, 14, 2, 10, 368] L st M) := zEv_step rfl
theorem e271_19 (ph : Bool) (d : Nat) (L st : List zV) (M : zM) : zEv ph d 271 19 L st M = zcont ph d 271 (zstep ph (zEm ph d) 0 20 0 [1] L st M) := zEv_step rfl
theorem e271_20 (ph : Bool) (d : Nat) (L st : List zV) (M : zM) : zEv ph d 271 20 L st M = zcont ph d 271 (zstep ph (zEm ph d) 85 21 0 [] L st M) := zEv_step rfl
theorem e271_21 (ph : Bool) (d : Nat) (L st : List zV) (M : zM) : zEv ph d 271 21 L st M = zcont ph d 271 (zstep ph (zEm ph d) 41 24 26 [] L st M) := zEv_step rfl
theorem e271_24 (ph : Bool) (d : Nat) (L st : List zV) (M : zM) : zEv ph d 271 24 L st M = zcont ph d 271 (zstep ph (zEm ph d) 0 25 0 [-1] L st M) := zEv_step rfl
theorem e271_25 (ph : Bool) (d : Nat) (L st : List zV) (M : zM) : zEv ph d 271 25 L st M = zcont ph d 271 (zstep ph (zEm ph d) 80 26 0 [] L st M) := zEv_step rfl
theorem e271_26 (ph : Bool) (d : Nat) (L st : List zV) (M : zM) : zEv ph d 271 26 L st M = zcont ph d 271 (zstep ph (zEm ph d) 4 27 0 [0] L st M) := zEv_step rfl
theorem e271_27 (ph : Bool) (d : Nat) (L st : List zV) (M : zM) : zEv ph d 271 27 L st M = zcont ph d 271 (zstep ph (zEm ph d) 62 30 0 [30, 14, 2, 10, 368] L st M) := zEv_step rfl
theorem e271_30 (ph : Bool) (d : Nat) (L st : List zV) (M : zM) : zEv ph d 271 30 L st M = zcont ph d 271 (zstep ph (zEm ph d) 0 32 0 [75] L st M) := zEv_step rfl
theorem e271_32 (ph : Bool) (d : Nat) (L st : List zV) (M : zM) : zEv ph d 271 32 L st M = zcont ph d 271 (zstep ph (zEm ph d) 85 33 0 [] L st M) := zEv_step rfl
theorem e271_33 (ph : Bool) (d : Nat) (L st : List zV) (M : zM) : zEv ph d 271 33 L st M = zcont ph d 271 (zstep ph (zEm ph d) 0 36 0 [400] L st M) := zEv_step rfl
theorem e271_36 (ph : Bool) (d : Nat) (L st : List zV) (M : zM) : zEv ph d 271 36 L st M = zcont ph d 271 (zstep ph (zEm ph d) 47 39 41 [] L st M) := zEv_step rfl
theorem e271_39 (ph : Bool) (d : Nat) (L st : List zV) (M : zM) : zEv ph d 271 39 L st M = zcont ph d 271 (zstep ph (zEm ph d) 0 40 0 [0] L st M) := zEv_step rfl
theorem e271_40 (ph : Bool) (d : Nat) (L st : List zV) (M : zM) : zEv ph d 271 40 L st M = zcont ph d 271 (zstep ph (zEm ph d) 80 41 0 [] L st M) := zEv_step rfl
theorem e271_41 (ph : Bool) (d : Nat) (L st : List zV) (M : zM) : zEv ph d 271 41 L st M = zcont ph d 271 (zstep ph (zEm ph d) 4 42 0 [0] L st M) := zEv_step rfl
theorem e271_42 (ph : Bool) (d : Nat) (L st : List zV) (M : zM) : zEv ph d 271 42 L st M = zcont ph d 271 (zstep ph (zEm ph d) 70 45 223 [1, 0, 30] L st M) := zEv_step rfl
theorem e271_45 (ph : Bool) (d : Nat) (L st : List zV) (M : zM) : zEv ph d 271 45 L st M = zcont ph d 271 (zstep ph (zEm ph d) 4 46 0 [0] L st M) := zEv_step rfl
theorem e271_46 (ph : Bool) (d : Nat) (L st : List zV) (M : zM) : zEv ph d 271 46 L st M = zcont ph d 271 (zstep ph (zEm ph d) 2 47 0 [1] L st M) := zEv_step rfl
theorem e271_47 (ph : Bool) (d : Nat) (L st : List zV) (M : zM) : zEv ph d 271 47 L st M = zcont ph d 271 (zstep ph (zEm ph d) 2 48 0 [2] L st M) := zEv_step rfl
theorem e271_48 (ph : Bool) (d : Nat) (L st : List zV) (M : zM) : zEv ph d 271 48 L st M = zcont ph d 271 (zstep ph (zEm ph d) 70 51 270 [3, 1, 30] L st M) := zEv_step rfl
theorem e271_51 (ph : Bool) (d : Nat) (L st : List zV) (M : zM) : zEv ph d 271 51 L st M = zcont ph d 271 (zstep ph (zEm ph d) 80 52 0 [] L st M) := zEv_step rfl
theorem pair_drawn (d : Nat) (x0 z0 n y1 z1 s y2 z2 : Int) (M : zM) (hC : relC M) (hE : relE M) (hF : relF M) : zPairD M (zEm true (d + 8) 37 [(29, 0, x0), (0, n, y1), (0, s, y2)] M) (fun M1 => zEm true (d + 8) 271 [(30, 197, z0), (0, n, z1), (0, s, z2)] M1) := by
  have hG := hC.2
  obtain ⟨n0, n1, n2, n3, n4, n5⟩ := relC_n hC
  obtain ⟨s8, s9, st, -⟩ := relE_n hE
  obtain ⟨⟨g6, g6'⟩, ⟨g1, g2⟩, ⟨g3, g4⟩, -⟩ := okG_M hG
  have hF2 := hF
  obtain ⟨⟨f0, f1⟩, f2, f3, f4⟩ := hF2
  have hday := hE.2.1.1.2.2.1
  rw [zvS_0 (by omega) (by omega)] at hday
  have keep : ∀ M1, (∀ x y, ¬ (59 ≤ x ∧ x ≤ 67) → ¬ (x = 0 ∧ y = 14) → M1 x y = M x y) → (relC (zup M1 197 0 0) ∧ relE (zup M1 197 0 0) ∧ relF (zup M1 197 0 0)) ∧ ∀ x y, ¬ zFD x y → zup M1 197 0 0 x y = M x y := by
    intro M1 h
    refine ⟨rel_keep hC hE hF (fun x y hx => ?_), fun x y hx => ?_⟩
    · have : zup M1 197 0 0 x y = M1 x y := by unfold zup; rw [if_neg (by omega)]
      rw [this, h x y (by omega) (by omega)]
    · unfold zFD zFA zFC zFR at hx
      have : zup M1 197 0 0 x y = M1 x y := by unfold zup; rw [if_neg (by omega)]
      rw [this, h x y (by omega) (by omega)]
  by_cases c1 : (1 ≤ n ∧ n ≤ 60) ∧ M 30 7 ≠ 0
  · obtain ⟨⟨c1, c2⟩, c3⟩ := c1
    have eG : ∀ w, zvG (zup (cpS M 59 37) 0 14 w) 30 = zvG M 30 := fun w => by rw [zvG_out (by omega), zvG_cpo (by omega)]
    have oD : okD (zvS M 37) (zvG M 30) := ⟨zt_v, hE.2.1⟩
    obtain ⟨m, hm⟩ : ∃ m : Nat, (m : Int) = sMin n (400 - M 37 10) := ⟨(sMin n (400 - M 37 10)).toNat, by unfold sMin; split <;> omega⟩
    have hm1 : (m : Int) ≤ n ∧ M 37 10 + m ≤ 400 ∧ ((m : Int) = n ∨ M 37 10 + m = 400) := by rw [hm]; unfold sMin; split <;> omega
    have e10 : zvS M 37 0 10 = M 37 10 := zvS_0 (by omega) (by omega)
    have hcG : okG (zvG (cpS M 59 37) 30) := by rw [zvG_cpo (by omega)]; exact hG
    have hcd := c_drawDays0 (d + 1) x0 37 0 n 0 s 0 (cpS M 59 37) (by omega) (by omega) hcG c2 m 0 (3, 0, 0) (zvS M 37) s (by rw [zvG_cpo (by omega)]; exact oD) (by omega) (by omega) (by rw [e10]; omega) (by rw [e10]; omega)
    have e37 : zput (zup (cpS M 59 37) 0 14 s) 37 (zvS M 37) = zup (cpS M 59 37) 0 14 s := by
      have : zvS M 37 = zvS (zup (cpS M 59 37) 0 14 s) 37 := by rw [zvS_out (by omega), zvS_cpo (by omega)]
      rw [this, zput_self]
    rw [e37, zvG_cpo (by omega), Int.zero_add] at hcd
    obtain ⟨ok1, ok2, ok3⟩ := dDays_ok hG m (zvS M 37) s oD (by rw [e10]; omega)
    have hcall : zEm true (d + 7) 61 [(29, 0, x0), (26, 37, 0), (0, n, 0), (0, s, 0)] (cpS M 59 37) = some ((0, (m : Int), 0), zput (zup (cpS M 59 37) 0 14 (dDays (zvG M 30) m (zvS M 37, s)).2) 37 (dDays (zvG M 30) m (zvS M 37, s)).1) := by
      rw [← hcd]
      simp (disch := first | assumption | exact zrm0 | exact zrm1 _ | exact zrm2 _ _ | exact zrm3 _ _ _ | exact zrm4 _ _ _ _ | omega) only [m61, ↓k_dp, ↓k_dn, k_dp, k_dn, k_dT, k_dF, k_ip, k_in, if_true, if_false, ne_eq, not_true_eq_false, not_false_eq_true, Int.reduceAdd, zup_a, zup_e, zup_j, z32_id, k_al0, k_il3, k_pI, k_ic, k_is4, k_il4, k_il2, k_icge, k_al1, k_gI, k_v2r, k_is5, k_il5, k_gR, k_v3, k_inc5, k_goto, k_ifle, k_v3r, k_pop, k_inc4, k_ri, zb0_some, zb1_some, e61_0, e61_1, e61_2, e61_5, e61_6, e61_10, e61_11, e61_14, e61_15, e61_18, e61_21, e61_24, e61_25, e61_26, e61_27, e61_30, e61_33, e61_34, e61_36, e61_38, e61_39, e61_42, e61_45, e61_48, e61_49, e61_50, e61_52, e61_55, e61_58, e61_61, e61_62, e61_65, e61_68, e61_71, e61_72, e61_73, e61_76, e61_77, e61_78, e61_81, e61_84, e61_87, e61_90, e61_91, e61_92, e61_93, e61_96, e61_99, e61_100, e61_103, e61_106, e61_108]
    by_cases cm : m = 0
    · have hd4 : M 37 10 = 400 := by omega
      subst cm
      have hcall : zEm true (d + 7) 61 [(29, 0, x0), (26, 37, 0), (0, n, 0), (0, s, 0)] (cpS M 59 37) = some ((0, 0, 0), zup (cpS M 59 37) 0 14 s) := by
        rw [hcall]
        show some ((0, 0, 0), zput (zup (cpS M 59 37) 0 14 s) 37 (zvS M 37)) = _
        rw [e37]
      obtain ⟨⟨q1, q2, q3⟩, q4⟩ := keep (zup (cpS M 59 37) 0 14 s) (fun x y h1 h2 => by unfold zup; rw [if_neg (fun z => h2 ⟨z.1, z.2.1⟩), cpS_o (by omega)])
      refine ⟨0, zup (cpS M 59 37) 0 14 s, zup (zup (cpS M 59 37) 0 14 s) 197 0 0, ?_, ?_, q1, q2, q3, q4⟩
      · simp (disch := first | assumption | exact zrm0 | exact zrm1 _ | exact zrm2 _ _ | exact zrm3 _ _ _ | exact zrm4 _ _ _ _ | omega) only [m37, ↓k_dp, ↓k_dn, k_dp, k_dn, k_dT, k_dF, k_ip, k_in, if_true, if_false, ne_eq, not_true_eq_false, not_false_eq_true, Int.reduceAdd, zup_a, zup_e, zup_j, z32_id, k_il1, k_ic, k_iclt, k_icgt, k_al0, k_gR, k_gI, k_ifne, k_ri, k_v2, k_il2, k_v4r, k_is3, k_il3, k_ifle, k_v1, zb0_some, zb1_some, e37_0, e37_1, e37_2, e37_5, e37_6, e37_8, e37_11, e37_12, e37_15, e37_18, e37_21, e37_22, e37_23, e37_24, e37_27, e37_28, e37_31, e37_34, e37_35, e37_36, e37_39, e37_40, e37_41, e37_44, e37_45, e37_46, e37_49, e37_50, e37_53, e37_54, s_copyS, hcall]
      · have hx1 : cpS M 59 37 199 1 = M 199 1 := cpS_o (by omega)
        have hx2 : cpS M 59 37 199 75 = M 199 75 := cpS_o (by omega)
        have hin : (1 ≤ n ∧ n ≤ 60) := ⟨c1, c2⟩
        simp (disch := first | assumption | exact zrm0 | exact zrm1 _ | exact zrm2 _ _ | exact zrm3 _ _ _ | exact zrm4 _ _ _ _ | omega) only [m271, ↓k_dp, ↓k_dn, k_dp, k_dn, k_dT, k_dF, k_ip, k_in, if_true, if_false, ne_eq, not_true_eq_false, not_false_eq_true, Int.reduceAdd, zup_a, zup_e, zup_j, z32_id, k_al0, k_ic, k_pI, k_il1, k_s3r, k_ifeq, k_gR, k_ild, k_ildS, k_ildW, k_ifne, k_ri, k_icne, k_v1, k_il2, k_v3r, zb0_some, zb1_some, e271_0, e271_1, e271_2, e271_5, e271_6, e271_7, e271_9, e271_12, e271_15, e271_16, e271_19, e271_20, e271_21, e271_24, e271_25, e271_26, e271_27, e271_30, e271_32, e271_33, e271_36, e271_39, e271_40, e271_41, e271_42, e271_45, e271_46, e271_47, e271_48, e271_51, r_isIn, if_pos hin, hx1, hx2, n1, st, hd4]
    · have hz : zt (dDays (zvG M 30) m (zvS M 37, s)).1 = (dDays (zvG M 30) m (zvS M 37, s)).1 := ok1.1
      obtain ⟨M1, h1, b1, b2, b3, b4, b5, b6⟩ := c_doneB (d + 5) x0 M (dDays (zvG M 30) m (zvS M 37, s)).1 (zup (cpS M 59 37) 0 14 (dDays (zvG M 30) m (zvS M 37, s)).2) (fun x y h => by unfold zup; rw [if_neg (fun z => h ⟨z.1, z.2.1⟩)]) hz f0 f1 f3
      have hm0 : 0 < (m : Int) := by omega
      have hcc : zEm true (d + 8) 37 [(29, 0, x0), (0, n, y1), (0, s, y2)] M = some ((0, (m : Int), 0), M1) := by
        generalize (m : Int) = v at hcall hm0 ⊢
        simp (disch := first | assumption | exact zrm0 | exact zrm1 _ | exact zrm2 _ _ | exact zrm3 _ _ _ | exact zrm4 _ _ _ _ | omega) only [m37, ↓k_dp, ↓k_dn, k_dp, k_dn, k_dT, k_dF, k_ip, k_in, if_true, if_false, ne_eq, not_true_eq_false, not_false_eq_true, Int.reduceAdd, zup_a, zup_e, zup_j, z32_id, k_il1, k_ic, k_iclt, k_icgt, k_al0, k_gR, k_gI, k_ifne, k_ri, k_v2, k_il2, k_v4r, k_is3, k_il3, k_ifle, k_v1, zb0_some, zb1_some, e37_0, e37_1, e37_2, e37_5, e37_6, e37_8, e37_11, e37_12, e37_15, e37_18, e37_21, e37_22, e37_23, e37_24, e37_27, e37_28, e37_31, e37_34, e37_35, e37_36, e37_39, e37_40, e37_41, e37_44, e37_45, e37_46, e37_49, e37_50, e37_53, e37_54, s_copyS, hcall, h1]
      obtain ⟨B, hB⟩ : ∃ B, B = mSnap (zup M1 197 0 0) := ⟨_, rfl⟩
      have n24 : zup M1 197 0 0 197 24 = M 0 13 := by rw [zup_j (by omega), b1 197 24 (by omega) (by unfold zFC; omega)]; exact f2
      have hBo : ∀ x y, ¬ (x = 202 ∨ (x = 197 ∧ y = 24)) → B x y = zup M1 197 0 0 x y := by rw [hB]; exact (mSnap_ok (by rw [n24]; exact f0) (by rw [n24]; exact f1)).1
      have hB1 : ∀ x y, x = 199 → B x y = M x y := fun x y hx => by
        subst hx
        rw [hBo _ _ (by omega), zup_a (by omega), b1 _ _ (by omega) (by unfold zFC; omega)]
      have eBG : zrG B = zvG M 30 := by rw [zrG_eq (M := M) (fun y _ _ => hB1 199 y rfl)]; exact hC.1
      have eBS : zrS B = zvS M 37 := by rw [zrS_eq (M := M) (fun y _ _ _ => hB1 199 y rfl)]; exact hE.1
      have hself : rm B s (B 199 78) (zvS M 37) = zup B 197 40 s := by
        unfold rm
        have e1 : zup (zup B 197 40 s) 199 78 (B 199 78) = zup B 197 40 s := zup_id (zup_a (by omega))
        rw [e1]
        have e2 : zvS M 37 = zrS (zup B 197 40 s) := by rw [zrS_out (Or.inl (by omega)), eBS]
        rw [e2, zpR_self]
      have hr := r_drawDays0 d z0 n 0 s 0 (m : Int) B (by rw [eBG]; exact hG) (by omega) m 0 (3, 0, 0) (3, 0, 0) (zvS M 37) s (B 199 78) (by rw [eBG]; exact oD) (by rw [hB1 _ _ rfl, hE.2.2, eBG]; rfl) (Int.le_refl _) (by omega) (by rw [e10]; omega)
      rw [hself, eBG, if_neg cm] at hr
      have hB75 : B 199 75 = M 37 10 := by rw [hB1 _ _ rfl]; exact st
      have hrc : zEm true (d + 7) 270 [(30, 197, z0), (0, n, 0), (0, s, 0)] B = some ((0, (m : Int), 0), rm B (dDays (zvG M 30) m (zvS M 37, s)).2 0 (dDays (zvG M 30) m (zvS M 37, s)).1) := by
        rw [← hr]
        generalize (m : Int) = v at hm ⊢
        simp (disch := first | assumption | exact zrm0 | exact zrm1 _ | exact zrm2 _ _ | exact zrm3 _ _ _ | exact zrm4 _ _ _ _ | omega) only [m270, ↓k_dp, ↓k_dn, k_dp, k_dn, k_dT, k_dF, k_ip, k_in, if_true, if_false, ne_eq, not_true_eq_false, not_false_eq_true, Int.reduceAdd, zup_a, zup_e, zup_j, z32_id, k_al0, k_il2, k_pI, k_il1, k_ic, k_gR, k_ild, k_ildS, k_ildW, k_isub, k_s2r, k_is3, k_is4, k_il4, k_il3, k_icge, k_v2r, k_ist, k_is5, k_il5, k_is6, k_il6, k_ifne, k_dup2, k_ishl, k_ixor, k_goto, k_icne, k_v3r, k_v5, k_inc5, k_ifle, k_v2, k_v1, k_inc4, k_ri, zb0_some, zb1_some, e270_0, e270_1, e270_2, e270_5, e270_6, e270_9, e270_10, e270_13, e270_15, e270_16, e270_17, e270_20, e270_21, e270_22, e270_26, e270_27, e270_30, e270_31, e270_34, e270_36, e270_37, e270_38, e270_41, e270_42, e270_43, e270_45, e270_47, e270_48, e270_51, e270_52, e270_53, e270_56, e270_57, e270_59, e270_62, e270_64, e270_66, e270_69, e270_70, e270_73, e270_75, e270_76, e270_77, e270_78, e270_80, e270_81, e270_82, e270_83, e270_86, e270_88, e270_89, e270_92, e270_93, e270_95, e270_96, e270_99, e270_102, e270_103, e270_104, e270_106, e270_107, e270_108, e270_111, e270_114, e270_117, e270_118, e270_121, e270_122, e270_123, e270_126, e270_127, e270_128, e270_131, e270_132, e270_133, e270_136, e270_138, e270_139, e270_141, e270_144, e270_147, e270_148, e270_150, e270_153, e270_154, e270_157, e270_160, e270_163, e270_164, r_least, hB75, hm.symm]
      have hrr : zEm true (d + 8) 271 [(30, 197, z0), (0, n, z1), (0, s, z2)] M1 = some ((0, (m : Int), 0), rm B (dDays (zvG M 30) m (zvS M 37, s)).2 0 (dDays (zvG M 30) m (zvS M 37, s)).1) := by
        have hx1 : M1 199 1 = M 30 7 := by rw [b1 _ _ (by omega) (by unfold zFC; omega)]; exact n1
        have hx2 : M1 199 75 = M 37 10 := by rw [b1 _ _ (by omega) (by unfold zFC; omega)]; exact st
        have hin : (1 ≤ n ∧ n ≤ 60) := ⟨c1, c2⟩
        have hsn := r_snap (d + 6) z0 (zup M1 197 0 0) (by rw [n24]; exact f0) (by rw [n24]; exact f1)
        rw [← hB] at hsn
        simp (disch := first | assumption | exact zrm0 | exact zrm1 _ | exact zrm2 _ _ | exact zrm3 _ _ _ | exact zrm4 _ _ _ _ | omega) only [m271, ↓k_dp, ↓k_dn, k_dp, k_dn, k_dT, k_dF, k_ip, k_in, if_true, if_false, ne_eq, not_true_eq_false, not_false_eq_true, Int.reduceAdd, zup_a, zup_e, zup_j, z32_id, k_al0, k_ic, k_pI, k_il1, k_s3r, k_ifeq, k_gR, k_ild, k_ildS, k_ildW, k_ifne, k_ri, k_icne, k_v1, k_il2, k_v3r, zb0_some, zb1_some, e271_0, e271_1, e271_2, e271_5, e271_6, e271_7, e271_9, e271_12, e271_15, e271_16, e271_19, e271_20, e271_21, e271_24, e271_25, e271_26, e271_27, e271_30, e271_32, e271_33, e271_36, e271_39, e271_40, e271_41, e271_42, e271_45, e271_46, e271_47, e271_48, e271_51, r_isIn, if_pos hin, hx1, hx2, hsn, hrc]
      obtain ⟨p1, p2, p3, p4⟩ := pair_doneB (M2 := rm B (dDays (zvG M 30) m (zvS M 37, s)).2 0 (dDays (zvG M 30) m (zvS M 37, s)).1) (fl := 0) hC hE hF b1 b2 b3 b4 b5 b6 (fun x y h1 h2 => by rw [rm_o (by omega) (by omega), hB]) (by rw [rm_S]; exact hz) rm_78 ok1.2 (by rw [ok3 (by omega)]; rfl)
      exact ⟨(m : Int), M1, _, hcc, hrr, p1, p2, p3, p4⟩
  · obtain ⟨⟨q1, q2, q3⟩, q4⟩ := keep M (fun _ _ _ _ => rfl)
    refine ⟨-1, M, zup M 197 0 0, ?_, ?_, q1, q2, q3, q4⟩
    · by_cases k1 : 1 ≤ n
      · by_cases k2 : n ≤ 60
        · have k3 : M 30 7 = 0 := by omega
          simp (disch := first | assumption | exact zrm0 | exact zrm1 _ | exact zrm2 _ _ | exact zrm3 _ _ _ | exact zrm4 _ _ _ _ | omega) only [m37, ↓k_dp, ↓k_dn, k_dp, k_dn, k_dT, k_dF, k_ip, k_in, if_true, if_false, ne_eq, not_true_eq_false, not_false_eq_true, Int.reduceAdd, zup_a, zup_e, zup_j, z32_id, k_il1, k_ic, k_iclt, k_icgt, k_al0, k_gR, k_gI, k_ifne, k_ri, k_v2, k_il2, k_v4r, k_is3, k_il3, k_ifle, k_v1, zb0_some, zb1_some, e37_0, e37_1, e37_2, e37_5, e37_6, e37_8, e37_11, e37_12, e37_15, e37_18, e37_21, e37_22, e37_23, e37_24, e37_27, e37_28, e37_31, e37_34, e37_35, e37_36, e37_39, e37_40, e37_41, e37_44, e37_45, e37_46, e37_49, e37_50, e37_53, e37_54, k3]
        · simp (disch := first | assumption | exact zrm0 | exact zrm1 _ | exact zrm2 _ _ | exact zrm3 _ _ _ | exact zrm4 _ _ _ _ | omega) only [m37, ↓k_dp, ↓k_dn, k_dp, k_dn, k_dT, k_dF, k_ip, k_in, if_true, if_false, ne_eq, not_true_eq_false, not_false_eq_true, Int.reduceAdd, zup_a, zup_e, zup_j, z32_id, k_il1, k_ic, k_iclt, k_icgt, k_al0, k_gR, k_gI, k_ifne, k_ri, k_v2, k_il2, k_v4r, k_is3, k_il3, k_ifle, k_v1, zb0_some, zb1_some, e37_0, e37_1, e37_2, e37_5, e37_6, e37_8, e37_11, e37_12, e37_15, e37_18, e37_21, e37_22, e37_23, e37_24, e37_27, e37_28, e37_31, e37_34, e37_35, e37_36, e37_39, e37_40, e37_41, e37_44, e37_45, e37_46, e37_49, e37_50, e37_53, e37_54]
      · simp (disch := first | assumption | exact zrm0 | exact zrm1 _ | exact zrm2 _ _ | exact zrm3 _ _ _ | exact zrm4 _ _ _ _ | omega) only [m37, ↓k_dp, ↓k_dn, k_dp, k_dn, k_dT, k_dF, k_ip, k_in, if_true, if_false, ne_eq, not_true_eq_false, not_false_eq_true, Int.reduceAdd, zup_a, zup_e, zup_j, z32_id, k_il1, k_ic, k_iclt, k_icgt, k_al0, k_gR, k_gI, k_ifne, k_ri, k_v2, k_il2, k_v4r, k_is3, k_il3, k_ifle, k_v1, zb0_some, zb1_some, e37_0, e37_1, e37_2, e37_5, e37_6, e37_8, e37_11, e37_12, e37_15, e37_18, e37_21, e37_22, e37_23, e37_24, e37_27, e37_28, e37_31, e37_34, e37_35, e37_36, e37_39, e37_40, e37_41, e37_44, e37_45, e37_46, e37_49, e37_50, e37_53, e37_54]
    · by_cases k1 : 1 ≤ n ∧ n ≤ 60
      · have k3 : M 30 7 = 0 := by omega
        simp (disch := first | assumption | exact zrm0 | exact zrm1 _ | exact zrm2 _ _ | exact zrm3 _ _ _ | exact zrm4 _ _ _ _ | omega) only [m271, ↓k_dp, ↓k_dn, k_dp, k_dn, k_dT, k_dF, k_ip, k_in, if_true, if_false, ne_eq, not_true_eq_false, not_false_eq_true, Int.reduceAdd, zup_a, zup_e, zup_j, z32_id, k_al0, k_ic, k_pI, k_il1, k_s3r, k_ifeq, k_gR, k_ild, k_ildS, k_ildW, k_ifne, k_ri, k_icne, k_v1, k_il2, k_v3r, zb0_some, zb1_some, e271_0, e271_1, e271_2, e271_5, e271_6, e271_7, e271_9, e271_12, e271_15, e271_16, e271_19, e271_20, e271_21, e271_24, e271_25, e271_26, e271_27, e271_30, e271_32, e271_33, e271_36, e271_39, e271_40, e271_41, e271_42, e271_45, e271_46, e271_47, e271_48, e271_51, r_isIn, if_pos k1, n1, k3]
      · simp (disch := first | assumption | exact zrm0 | exact zrm1 _ | exact zrm2 _ _ | exact zrm3 _ _ _ | exact zrm4 _ _ _ _ | omega) only [m271, ↓k_dp, ↓k_dn, k_dp, k_dn, k_dT, k_dF, k_ip, k_in, if_true, if_false, ne_eq, not_true_eq_false, not_false_eq_true, Int.reduceAdd, zup_a, zup_e, zup_j, z32_id, k_al0, k_ic, k_pI, k_il1, k_s3r, k_ifeq, k_gR, k_ild, k_ildS, k_ildW, k_ifne, k_ri, k_icne, k_v1, k_il2, k_v3r, zb0_some, zb1_some, e271_0, e271_1, e271_2, e271_5, e271_6, e271_7, e271_9, e271_12, e271_15, e271_16, e271_19, e271_20, e271_21, e271_24, e271_25, e271_26, e271_27, e271_30, e271_32, e271_33, e271_36, e271_39, e271_40, e271_41, e271_42, e271_45, e271_46, e271_47, e271_48, e271_51, r_isIn, if_neg k1]
