/-! a valley's text, whole -/
def relTT (A B : zM) : Prop := (0 ≤ A 2 1 ∧ A 2 1 ≤ 940) ∧ B 197 2 = A 2 1 ∧ ∀ i, 0 ≤ i → i < 940 → B 198 i = A 3 i ∧ 0 ≤ A 3 i ∧ A 3 i ≤ 255
theorem r_takeAll (E : Nat) (hE : 1 ≤ E) (y0 : Int) (B : zM) : zEm true E 167 [(30, 197, y0)] B = some ((0, B 197 2, 0), zup B 197 2 0) := by
  obtain ⟨e, rfl⟩ : ∃ e, E = e + 1 := ⟨E - 1, by omega⟩
  simp (disch := first | assumption | exact zrm0 | exact zrm1 _ | exact zrm2 _ _ | exact zrm3 _ _ _ | exact zrm4 _ _ _ _ | omega) only [m167, ↓k_dp, ↓k_dn, k_dp, k_dn, k_dT, k_dF, k_ip, k_in, if_true, if_false, ne_eq, not_true_eq_false, not_false_eq_true, Int.reduceAdd, zup_a, zup_e, zup_j, z32_id, k_al0, k_gI, k_is1, k_ic, k_pI, k_il1, k_ri, e167_0, e167_1, e167_4, e167_5, e167_6, e167_7, e167_10, e167_11]
theorem p_begin {A B : zM} (ra : relTT A B) {L : Int} (l0 : 0 < L) (l1 : L ≤ 900) (D E : Nat) (hD : 8 ≤ D) (hE : 6 ≤ E) (x0 y y0 y1 : Int) : ∃ A' B', zEm true D 137 [(27, 2, x0), (0, L, y)] A = some ((98, 0, 0), A') ∧ zEm true E 185 [(30, 197, y0), (0, L, y1)] B = some ((98, 0, 0), B') ∧ tkR A' B' ∧ (∀ x y, ¬ (x = 2 ∧ 2 ≤ y ∧ y ≤ 11) → A' x y = A x y) ∧ (∀ x y, ¬ (x = 197 ∧ (y = 0 ∨ 2 ≤ y ∧ y ≤ 13)) → B' x y = B x y) ∧ A' 2 2 = L ∧ B' 197 2 = 0 ∧ B' 197 0 = 0 := by
  obtain ⟨d, rfl⟩ : ∃ d, D = d + 1 := ⟨D - 1, by omega⟩
  obtain ⟨e, rfl⟩ : ∃ e, E = e + 1 := ⟨E - 1, by omega⟩
  obtain ⟨⟨t0, t1⟩, t2, t3⟩ := ra
  obtain ⟨A1, hA1⟩ : ∃ A1, A1 = zup (zup (zup (zup A 2 2 L) 2 3 0) 2 10 0) 2 11 0 := ⟨_, rfl⟩
  obtain ⟨B1, hB1⟩ : ∃ B1, B1 = zup (zup (zup (zup (zup (zup B 197 0 0) 197 2 0) 197 3 (B 197 2)) 197 4 L) 197 10 0) 197 5 0 := ⟨_, rfl⟩
  have fA : ∀ x y, ¬ (x = 2 ∧ (y = 2 ∨ y = 3 ∨ y = 10 ∨ y = 11)) → A1 x y = A x y := fun x y h => by rw [hA1, zup_f (by omega), zup_f (by omega), zup_f (by omega), zup_f (by omega)]
  have fB : ∀ x y, ¬ (x = 197 ∧ (y = 0 ∨ y = 2 ∨ y = 3 ∨ y = 4 ∨ y = 5 ∨ y = 10)) → B1 x y = B x y := fun x y h => by rw [hB1, zup_f (by omega), zup_f (by omega), zup_f (by omega), zup_f (by omega), zup_f (by omega), zup_f (by omega)]
  have a2 : A1 2 2 = L := by rw [hA1, zup_f (by omega), zup_f (by omega), zup_f (by omega), zup_e (by omega)]
  have a3 : A1 2 3 = 0 := by rw [hA1, zup_f (by omega), zup_f (by omega), zup_e (by omega)]
  have a10 : A1 2 10 = 0 := by rw [hA1, zup_f (by omega), zup_e (by omega)]
  have b0 : B1 197 0 = 0 := by rw [hB1, zup_f (by omega), zup_f (by omega), zup_f (by omega), zup_f (by omega), zup_f (by omega), zup_e (by omega)]
  have b2 : B1 197 2 = 0 := by rw [hB1, zup_f (by omega), zup_f (by omega), zup_f (by omega), zup_f (by omega), zup_e (by omega)]
  have b3 : B1 197 3 = A 2 1 := by rw [hB1, zup_f (by omega), zup_f (by omega), zup_f (by omega), zup_e (by omega), t2]
  have b4 : B1 197 4 = L := by rw [hB1, zup_f (by omega), zup_f (by omega), zup_e (by omega)]
  have b10 : B1 197 10 = 0 := by rw [hB1, zup_f (by omega), zup_e (by omega)]
  have b5 : B1 197 5 = 0 := by rw [hB1, zup_e (by omega)]
  have r3 : A1 3 = A 3 := funext fun i => fA _ _ (by omega)
  have r8 : B1 198 = B 198 := funext fun i => fB _ _ (by omega)
  have hbs : bsR A1 B1 := by
    unfold bsR
    rw [r3, r8, a2, a3, a10, b3, b4, b5, b10, fA 2 1 (by omega)]
    exact ⟨t0, t1, l0, l1, by omega, t0, rfl, rfl, rfl, t3, rfl, rfl⟩
  obtain ⟨A', B', c1, c2, c3, c4, c5, -⟩ := p_go hbs d e (by omega) (by omega) x0 y0
  refine ⟨A', B', ?_, ?_, c3, fun x y h => ?_, fun x y h => ?_, ?_, ?_, ?_⟩
  · rw [hA1] at c1
    simp (disch := first | assumption | exact zrm0 | exact zrm1 _ | exact zrm2 _ _ | exact zrm3 _ _ _ | exact zrm4 _ _ _ _ | omega) only [m137, ↓k_dp, ↓k_dn, k_dp, k_dn, k_dT, k_dF, k_ip, k_in, if_true, if_false, ne_eq, not_true_eq_false, not_false_eq_true, Int.reduceAdd, zup_a, zup_e, zup_j, z32_id, k_al0, k_il1, k_pI, k_ic, k_v1, k_rv, zb0_some, zb1_some, e137_0, e137_1, e137_2, e137_5, e137_6, e137_7, e137_10, e137_11, e137_12, e137_15, e137_16, e137_17, e137_20, e137_21, e137_24, c1]
  · rw [hB1] at c2
    have ht := r_takeAll e (by omega) y0 (zup B 197 0 0)
    rw [zup_f (by omega)] at ht
    simp (disch := first | assumption | exact zrm0 | exact zrm1 _ | exact zrm2 _ _ | exact zrm3 _ _ _ | exact zrm4 _ _ _ _ | omega) only [m185, ↓k_dp, ↓k_dn, k_dp, k_dn, k_dT, k_dF, k_ip, k_in, if_true, if_false, ne_eq, not_true_eq_false, not_false_eq_true, Int.reduceAdd, zup_a, zup_e, zup_j, z32_id, k_al0, k_ic, k_pI, k_v1r, k_il1, k_v1, k_rv, zb0_some, zb1_some, e185_0, e185_1, e185_2, e185_5, e185_6, e185_7, e185_10, e185_13, e185_14, e185_15, e185_18, e185_19, e185_20, e185_23, e185_24, e185_25, e185_28, e185_29, e185_32, ht, c2]
  · rw [c4 x y (by omega), fA x y (by omega)]
  · rw [c5 x y (by omega), fB x y (by omega)]
  · rw [c4 _ _ (by omega)]; exact a2
  · rw [c5 _ _ (by omega)]; exact b2
  · rw [c5 _ _ (by omega)]; exact b0
theorem s_clearN (D : Nat) (hD : 1 ≤ D) (a x0 : Int) (A : zM) : zEm true D 104 [(25, a, x0)] A = some ((98, 0, 0), zup (zup A a 4 0) a 5 0) := by
  obtain ⟨d, rfl⟩ : ∃ d, D = d + 1 := ⟨D - 1, by omega⟩
  simp (disch := first | assumption | exact zrm0 | exact zrm1 _ | exact zrm2 _ _ | exact zrm3 _ _ _ | exact zrm4 _ _ _ _ | omega) only [m104, ↓k_dp, ↓k_dn, k_dp, k_dn, k_dT, k_dF, k_ip, k_in, if_true, if_false, ne_eq, not_true_eq_false, not_false_eq_true, Int.reduceAdd, zup_a, zup_e, zup_j, z32_id, k_al0, k_ic, k_pI, k_rv, e104_0, e104_1, e104_2, e104_5, e104_6, e104_7, e104_10]
/-- where the class and the reference write when they read a valley -/
def zVc (x y : Int) : Prop := (x = 0 ∧ y = 13) ∨ (x = 1 ∧ y = 5) ∨ (x = 2 ∧ 1 ≤ y ∧ y ≤ 11) ∨ (4 ≤ x ∧ x ≤ 19) ∨ (30 ≤ x ∧ x ≤ 45) ∨ (x = 46 ∧ 4 ≤ y ∧ y ≤ 5) ∨ (x = 51 ∧ y = 0)
def zVr (x y : Int) : Prop := (x = 197 ∧ (0 ≤ y ∧ y ≤ 13 ∨ y = 24)) ∨ x = 199 ∨ x = 200 ∨ x = 204 ∨ x = 205 ∨ x = 208
/-- the valley read is the present one -/
def vlN (A' B' : zM) : Prop := A' 0 13 = 0 ∧ B' 197 24 = 0 ∧ A' 46 5 = 0 ∧ ∃ Q R : zM, vlP Q R ∧ (∀ x y, 30 ≤ x → x ≤ 36 → A' x y = cpV Q 30 4 x y) ∧ (∀ x y, 37 ≤ x → x ≤ 45 → A' x y = cpS (cpV Q 30 4) 37 11 x y) ∧ (∀ k, 0 ≤ k → k < 75 → B' 199 k = R 200 k) ∧ (∀ k, 0 ≤ k → k < 20 → B' 204 k = R 205 k) ∧ (∀ k, 0 ≤ k → k < 2 → B' 199 (79 + k) = R 200 (5 + k)) ∧ (∀ k, 0 ≤ k → k < 10 → B' 199 (81 + k) = R 200 (19 + k) ∧ B' 199 (91 + k) = R 200 (29 + k)) ∧ (∀ k, 0 ≤ k → k < 5 → B' 199 (101 + k) = R 200 (40 + k) ∧ B' 199 (106 + k) = R 200 (45 + k) ∧ B' 199 (116 + k) = -1 ∧ B' 199 (121 + k) = -1) ∧ ∀ y, 75 ≤ y ∧ y < 79 ∨ 111 ≤ y ∧ y < 116 ∨ 126 ≤ y ∧ y < 368 → B' 199 y = 0
/-- nothing but the tape is changed -/
def vlO (A B A' B' : zM) : Prop := (∀ x y, (x = 0 ∧ y = 13) ∨ (30 ≤ x ∧ x ≤ 46) → A' x y = A x y) ∧ ∀ x y, (x = 197 ∧ y = 24) ∨ x = 199 ∨ x = 204 → B' x y = B x y
theorem l_valley {A B : zM} (ra : relTT A B) (D E : Nat) (hD : 16 ≤ D) (hE : 16 ≤ E) (x0 y0 : Int) : ∃ A' B' r, zEm true D 3 [(29, 0, x0)] A = some ((0, r, 0), A') ∧ zEm true E 203 [(30, 197, y0)] B = some ((0, r, 0), B') ∧ (∀ x y, ¬ zVc x y → A' x y = A x y) ∧ (∀ x y, ¬ zVr x y → B' x y = B x y) ∧ A' 2 1 = 0 ∧ B' 197 2 = 0 ∧ A' 51 0 = B' 197 10 ∧ (vlN A' B' ∨ vlO A B A' B') := by
  obtain ⟨d, rfl⟩ : ∃ d, D = d + 2 := ⟨D - 2, by omega⟩
  obtain ⟨e, rfl⟩ : ∃ e, E = e + 1 := ⟨E - 1, by omega⟩
  obtain ⟨A1, a1, a2, a3, a4, a5⟩ := s_clearV d (by omega) 0 A
  obtain ⟨A2, b1, b2, b3, b4, b5, b6⟩ := s_clearS d (by omega) 0 A1
  obtain ⟨A3, hA3⟩ : ∃ A3, A3 = zup A2 1 5 0 := ⟨_, rfl⟩
  have f3 : ∀ x y, ¬ (4 ≤ x ∧ x ≤ 19) → ¬ (x = 1 ∧ y = 5) → A3 x y = A x y := fun x y h1 h2 => by
    rw [hA3, zup_f h2, b6 x y (by omega), a5 x y (by omega) (by omega) (by omega)]
  have r3 : A3 3 = A 3 := funext fun i => f3 _ _ (by omega) (by omega)
  have ra3 : relTT A3 B := by
    unfold relTT
    rw [r3, f3 2 1 (by omega) (by omega)]
    exact ra
  obtain ⟨A4, B1, c1, c2, c3, c4, c5, c6, c7, c8⟩ := p_begin ra3 (L := 900) (by omega) (by omega) d e (by omega) (by omega) 0 0 y0 0
  obtain ⟨B2, d1, d2, d3⟩ := r_val1 e y0 B1 75 0 B1 (by omega) (by omega) (fun _ _ _ => rfl) (fun a h0 h1 => by omega)
  obtain ⟨B3, e1, e2, e3⟩ := r_val2 e y0 B2 6 0 B2 (by omega) (by omega) (fun _ _ _ => rfl) (fun a h0 h1 => by omega)
  obtain ⟨B4, hB4⟩ : ∃ B4, B4 = zup (zup B3 200 3 2) 200 4 1 := ⟨_, rfl⟩
  have fB4 : ∀ x y, x ≠ 200 → x ≠ 208 → B4 x y = B1 x y := fun x y h1 h2 => by
    rw [hB4, zup_f (by omega), zup_f (by omega), e2 x y (by omega), d2 x y (by omega)]
  have z200 : ∀ k, 0 ≤ k → k < 75 → k ≠ 3 → k ≠ 4 → B4 200 k = 0 := fun k k0 k1 h3 h4 => by
    rw [hB4, zup_f (by omega), zup_f (by omega), e2 _ _ (by omega)]
    exact d3 k k0 k1
  have z3 : B4 200 3 = 2 := by rw [hB4, zup_f (by omega), zup_e (by omega)]
  have z4 : B4 200 4 = 1 := by rw [hB4, zup_e (by omega)]
  have z208 : ∀ k, 0 ≤ k → k < 6 → B4 208 k = 0 := fun k k0 k1 => by
    rw [hB4, zup_f (by omega), zup_f (by omega)]
    exact e3 k k0 k1
  have hT : tkR A4 B4 := tkR_fr c3 (fun _ _ _ => rfl) (fun x y z => fB4 x y (by omega) (by omega))
  have q4 : ∀ y, A4 4 y = A1 4 y := fun y => by rw [c4 _ _ (by omega), hA3, zup_f (by omega), b6 _ _ (by omega)]
  have q9 : ∀ x y, 4 ≤ x → x ≤ 10 → A4 x y = A1 x y := fun x y h1 h2 => by rw [c4 _ _ (by omega), hA3, zup_f (by omega), b6 _ _ (by omega)]
  have q11 : ∀ x y, 11 ≤ x → x ≤ 19 → A4 x y = A2 x y := fun x y h1 h2 => by rw [c4 _ _ (by omega), hA3, zup_f (by omega)]
  obtain ⟨g6, g7, g8, g9, g10, g11⟩ := a2
  have hv : vlP A4 B4 := by
    refine ⟨?_, ?_, ?_, ?_, ?_, ?_, ?_, ?_, ?_, ?_, ?_, ?_, ?_, ?_, ?_, ?_, ?_, ?_, ?_⟩
    · rw [q4, g6, z200 _ (by omega) (by omega) (by omega) (by omega)]; omega
    · rw [q4, g7, z200 _ (by omega) (by omega) (by omega) (by omega)]; omega
    · rw [q4, g8, z200 _ (by omega) (by omega) (by omega) (by omega)]; omega
    · rw [q4, g10, z3]; omega
    · rw [q4, g11, z4]; omega
    · rw [q4, g9, z200 _ (by omega) (by omega) (by omega) (by omega)]; omega
    · intro k k0 k1
      rw [q4, g6] at k1
      omega
    · intro k k0 k1
      rw [q4, g7] at k1
      omega
    · intro k k0 k1
      rw [q4, g8] at k1
      omega
    · intro k k0 k1
      rw [q4, g7] at k1
      omega
    · intro k k0 k1
      rw [q11 12 k (by omega) (by omega), (b3 k k0 k1).1, z200 _ (by omega) (by omega) (by omega) (by omega)]
      exact ⟨rfl, by omega, by omega, fun _ => rfl⟩
    · intro k k0 k1
      rw [q11 13 k (by omega) (by omega), (b3 k k0 k1).2, z200 _ (by omega) (by omega) (by omega) (by omega)]
      exact ⟨rfl, by omega, by omega, fun _ => rfl⟩
    · intro k k0 k1
      rw [q11 14 k (by omega) (by omega), (b4 k k0 k1).1, z200 _ (by omega) (by omega) (by omega) (by omega)]
      omega
    · intro k k0 k1
      rw [q11 15 k (by omega) (by omega), (b4 k k0 k1).2.1, z200 _ (by omega) (by omega) (by omega) (by omega)]
      omega
    · intro k k0 k1
      rw [q9 9 k (by omega) (by omega), a3 k k0 k1, z200 _ (by omega) (by omega) (by omega) (by omega)]
      omega
    · intro k k0 k1
      rw [q9 10 k (by omega) (by omega), z200 _ (by omega) (by omega) (by omega) (by omega)]
      rcases (show k = 0 ∨ k = 1 by omega) with rfl | rfl
      · rw [a4.1]; omega
      · rw [a4.2]; omega
    · intro k k0 k1
      rw [q11 19 k (by omega) (by omega), z200 _ (by omega) (by omega) (by omega) (by omega)]
      rcases (show k = 0 ∨ k = 1 by omega) with rfl | rfl
      · rw [b5.1]; omega
      · rw [b5.2]; omega
    · have h15 : A4 1 5 = 0 := by rw [c4 _ _ (by omega), hA3, zup_e (by omega)]
      rw [h15]
      refine ⟨by omega, fun k k0 k1 => ?_⟩
      rw [z208 k k0 k1, Int.zero_ediv]
      rfl
    · refine ⟨⟨?_, ?_, ?_⟩, fun k k0 k1 => ⟨?_, ?_, ?_⟩⟩
      · rw [q11 _ _ (by omega) (by omega)]; exact b2.1
      · rw [q11 _ _ (by omega) (by omega)]; exact b2.2.1
      · rw [q11 _ _ (by omega) (by omega)]; exact b2.2.2
      · rw [q11 _ _ (by omega) (by omega)]; exact (b4 k k0 k1).2.2.1
      · rw [q11 _ _ (by omega) (by omega)]; exact (b4 k k0 k1).2.2.2.1
      · rw [q11 _ _ (by omega) (by omega)]; exact (b4 k k0 k1).2.2.2.2
  have fA4 : ∀ x y, ¬ (4 ≤ x ∧ x ≤ 19) → ¬ (x = 1 ∧ y = 5) → ¬ (x = 2 ∧ 2 ≤ y ∧ y ≤ 11) → A4 x y = A x y := fun x y h1 h2 h3 => by
    rw [c4 x y h3, f3 x y h1 h2]
  have p0 := hT.2.p0
  obtain ⟨A5, B5, k1, k2, k3⟩ := p_vloop d e (by omega) (by omega) 0 y0 900 0 A4 B4 hT hv (by omega) (by omega) (by omega)
  have fA5 : ∀ x y, ¬ (4 ≤ x ∧ x ≤ 19) → ¬ (x = 1 ∧ y = 5) → ¬ (x = 2 ∧ 2 ≤ y ∧ y ≤ 11) → A5 x y = A x y := fun x y h1 h2 h3 => by
    rw [k1 x y h2 h3 h1, fA4 x y h1 h2 h3]
  have fB5 : ∀ x y, ¬ (x = 197 ∧ (y = 0 ∨ 2 ≤ y ∧ y ≤ 13)) → x ≠ 200 → x ≠ 205 → x ≠ 208 → B5 x y = B x y := fun x y h1 h2 h3 h4 => by
    rw [k2 x y (by omega) h2 h3 h4, fB4 x y h2 h4, c5 x y h1]
  have w2 : B5 197 2 = 0 := by rw [k2 _ _ (by omega) (by omega) (by omega) (by omega), fB4 _ _ (by omega) (by omega)]; exact c7
  have hB0 : zEm true (e + 1) 203 [(30, 197, y0)] B = zEv true e 203 65 [(30, 197, y0), (0, 0, 0), (3, 0, 0)] [] B4 := by
    have s0 : ∀ z, zEm true (e + 1) 203 [(30, 197, y0)] B = z ↔ zEv true e 203 9 [(30, 197, y0), (0, 0, 0), (3, 0, 0)] [] B1 = z := fun z => by
      simp (disch := first | assumption | exact zrm0 | exact zrm1 _ | exact zrm2 _ _ | exact zrm3 _ _ _ | exact zrm4 _ _ _ _ | omega) only [m203, ↓k_dp, ↓k_dn, k_dp, k_dn, k_dT, k_dF, k_ip, k_in, if_true, if_false, ne_eq, not_true_eq_false, not_false_eq_true, Int.reduceAdd, zup_a, zup_e, zup_j, z32_id, k_al0, k_ic, k_v2, k_is1, k_il1, k_icge, k_gR, k_ist, k_inc1, k_goto, k_bstZ, k_bstB, k_gI, k_ifeq, k_v1r, k_ifne, k_isub, k_ri, k_is2, k_il2, k_ild, k_ildS, k_ildW, k_inc2, k_lld, k_lst, k_v1, k_pI, zb0_some, zb1_some, e203_0, e203_1, e203_4, e203_7, e203_8, e203_10, e203_12, e203_15, e203_16, e203_19, e203_20, e203_21, e203_22, e203_25, e203_28, e203_29, e203_30, e203_31, e203_33, e203_36, e203_37, e203_40, e203_41, e203_42, e203_43, e203_46, e203_49, e203_50, e203_53, e203_54, e203_55, e203_56, e203_57, e203_60, e203_61, e203_62, e203_63, e203_64, e203_65, e203_66, e203_69, e203_72, e203_73, e203_76, e203_79, e203_80, e203_83, e203_86, e203_87, e203_88, e203_91, e203_92, e203_93, e203_96, e203_99, e203_100, e203_101, e203_102, e203_104, e203_107, e203_108, e203_111, e203_112, e203_113, e203_116, e203_117, e203_118, e203_119, e203_122, e203_125, e203_126, e203_127, e203_128, e203_130, e203_133, e203_134, e203_137, e203_138, e203_139, e203_142, e203_143, e203_144, e203_145, e203_148, e203_151, e203_152, e203_155, e203_156, e203_157, e203_160, e203_161, c2]
    have s1 : zEv true e 203 28 [(30, 197, y0), (0, 75, 0), (3, 0, 0)] [] B2 = zEv true e 203 30 [(30, 197, y0), (0, 0, 0), (3, 0, 0)] [] B2 := by
      simp (disch := first | assumption | exact zrm0 | exact zrm1 _ | exact zrm2 _ _ | exact zrm3 _ _ _ | exact zrm4 _ _ _ _ | omega) only [m203, ↓k_dp, ↓k_dn, k_dp, k_dn, k_dT, k_dF, k_ip, k_in, if_true, if_false, ne_eq, not_true_eq_false, not_false_eq_true, Int.reduceAdd, zup_a, zup_e, zup_j, z32_id, k_al0, k_ic, k_v2, k_is1, k_il1, k_icge, k_gR, k_ist, k_inc1, k_goto, k_bstZ, k_bstB, k_gI, k_ifeq, k_v1r, k_ifne, k_isub, k_ri, k_is2, k_il2, k_ild, k_ildS, k_ildW, k_inc2, k_lld, k_lst, k_v1, k_pI, zb0_some, zb1_some, e203_0, e203_1, e203_4, e203_7, e203_8, e203_9, e203_10, e203_12, e203_15, e203_16, e203_19, e203_20, e203_21, e203_22, e203_25, e203_28, e203_29, e203_31, e203_33, e203_36, e203_37, e203_40, e203_41, e203_42, e203_43, e203_46, e203_49, e203_50, e203_53, e203_54, e203_55, e203_56, e203_57, e203_60, e203_61, e203_62, e203_63, e203_64, e203_65, e203_66, e203_69, e203_72, e203_73, e203_76, e203_79, e203_80, e203_83, e203_86, e203_87, e203_88, e203_91, e203_92, e203_93, e203_96, e203_99, e203_100, e203_101, e203_102, e203_104, e203_107, e203_108, e203_111, e203_112, e203_113, e203_116, e203_117, e203_118, e203_119, e203_122, e203_125, e203_126, e203_127, e203_128, e203_130, e203_133, e203_134, e203_137, e203_138, e203_139, e203_142, e203_143, e203_144, e203_145, e203_148, e203_151, e203_152, e203_155, e203_156, e203_157, e203_160, e203_161]
    rw [s0, d1, s1, e1, hB4]
    simp (disch := first | assumption | exact zrm0 | exact zrm1 _ | exact zrm2 _ _ | exact zrm3 _ _ _ | exact zrm4 _ _ _ _ | omega) only [m203, ↓k_dp, ↓k_dn, k_dp, k_dn, k_dT, k_dF, k_ip, k_in, if_true, if_false, ne_eq, not_true_eq_false, not_false_eq_true, Int.reduceAdd, zup_a, zup_e, zup_j, z32_id, k_al0, k_ic, k_v2, k_is1, k_il1, k_icge, k_gR, k_ist, k_inc1, k_goto, k_bstZ, k_bstB, k_gI, k_ifeq, k_v1r, k_ifne, k_isub, k_ri, k_is2, k_il2, k_ild, k_ildS, k_ildW, k_inc2, k_lld, k_lst, k_v1, k_pI, zb0_some, zb1_some, e203_0, e203_1, e203_4, e203_7, e203_8, e203_9, e203_10, e203_12, e203_15, e203_16, e203_19, e203_20, e203_21, e203_22, e203_25, e203_28, e203_29, e203_30, e203_31, e203_33, e203_36, e203_37, e203_40, e203_41, e203_42, e203_43, e203_46, e203_49, e203_50, e203_53, e203_54, e203_55, e203_56, e203_57, e203_60, e203_61, e203_62, e203_63, e203_64, e203_66, e203_69, e203_72, e203_73, e203_76, e203_79, e203_80, e203_83, e203_86, e203_87, e203_88, e203_91, e203_92, e203_93, e203_96, e203_99, e203_100, e203_101, e203_102, e203_104, e203_107, e203_108, e203_111, e203_112, e203_113, e203_116, e203_117, e203_118, e203_119, e203_122, e203_125, e203_126, e203_127, e203_128, e203_130, e203_133, e203_134, e203_137, e203_138, e203_139, e203_142, e203_143, e203_144, e203_145, e203_148, e203_151, e203_152, e203_155, e203_156, e203_157, e203_160, e203_161]
  have hA0 : ∀ v N, zEv true d 79 31 [(24, 1, 0), (0, 0, 0)] [] A4 = some ((0, v, 0), N) → zEm true (d + 1) 79 [(24, 1, 0)] A = some ((0, v, 0), N) := fun v N h => by
    rw [← h]
    rw [hA3] at c1
    simp (disch := first | assumption | exact zrm0 | exact zrm1 _ | exact zrm2 _ _ | exact zrm3 _ _ _ | exact zrm4 _ _ _ _ | omega) only [m79, ↓k_dp, ↓k_dn, k_dp, k_dn, k_dT, k_dF, k_ip, k_in, if_true, if_false, ne_eq, not_true_eq_false, not_false_eq_true, Int.reduceAdd, zup_a, zup_e, zup_j, z32_id, k_al0, k_gR, k_v1, k_ic, k_pI, k_v2, k_is1, k_il1, k_icgt, k_v1r, k_ifne, k_ifeq, k_v2r, k_ri, k_inc1, k_goto, zb0_some, zb1_some, e79_0, e79_1, e79_4, e79_7, e79_8, e79_11, e79_14, e79_15, e79_16, e79_19, e79_20, e79_23, e79_26, e79_29, e79_30, e79_32, e79_35, e79_38, e79_39, e79_42, e79_45, e79_48, e79_49, e79_52, e79_55, e79_56, e79_59, e79_61, e79_64, e79_67, e79_68, e79_69, e79_72, e79_75, e79_76, e79_79, e79_82, e79_85, e79_86, e79_89, e79_90, a1, b1, c1]
  rcases k3 with ⟨mm1, mm2, mm3⟩ | ⟨i', hi, mm1, mm2, mm3, mm4⟩
  · have hA := hA0 _ _ mm2
    have fl := mm1
    unfold flR at fl
    refine ⟨zup (zup A5 2 1 0) 51 0 (A5 2 10), B5, -1 - B5 197 11, ?_, hB0.trans mm3, fun x y h => ?_, fun x y h => ?_, ?_, w2, ?_, Or.inr ⟨fun x y h => ?_, fun x y h => ?_⟩⟩
    · have e11 := fl.2.2.2.1
      simp (disch := first | assumption | exact zrm0 | exact zrm1 _ | exact zrm2 _ _ | exact zrm3 _ _ _ | exact zrm4 _ _ _ _ | omega) only [m3, ↓k_dp, ↓k_dn, k_dp, k_dn, k_dT, k_dF, k_ip, k_in, if_true, if_false, ne_eq, not_true_eq_false, not_false_eq_true, Int.reduceAdd, zup_a, zup_e, zup_j, z32_id, k_al0, k_gR, k_v1r, k_is1, k_ic, k_pI, k_gI, k_il1, k_ifge, k_isub, k_ri, k_v2, k_v1, zb0_some, zb1_some, e3_0, e3_1, e3_4, e3_7, e3_8, e3_9, e3_12, e3_13, e3_16, e3_17, e3_20, e3_21, e3_24, e3_27, e3_30, e3_31, e3_34, e3_35, e3_36, e3_39, e3_42, e3_43, e3_44, e3_45, e3_48, e3_49, e3_52, e3_55, e3_58, e3_59, e3_62, e3_63, e3_66, e3_69, e3_72, e3_73, e3_76, e3_79, e3_80, e3_81, e3_84, e3_85, hA, e11]
    · unfold zVc at h
      rw [zup_f (by omega), zup_f (by omega), fA5 x y (by omega) (by omega) (by omega)]
    · unfold zVr at h
      exact fB5 x y (by omega) (by omega) (by omega) (by omega)
    · rw [zup_f (by omega), zup_e (by omega)]
    · rw [zup_e (by omega)]; exact fl.1
    · rw [zup_f (by omega), zup_f (by omega), fA5 x y (by omega) (by omega) (by omega)]
    · exact fB5 x y (by omega) (by omega) (by omega) (by omega)
  · have hA := hA0 _ _ mm3
    obtain ⟨B6, n1, n2, n3⟩ := r_val3 e y0 i' B5 75 0 B5 (by omega) (by omega) (fun _ _ _ => rfl) (fun a h0 h1 => by omega)
    obtain ⟨B7, o1, o2, o3⟩ := r_val4 e y0 i' B6 20 0 B6 (by omega) (by omega) (fun _ _ _ => rfl) (fun a h0 h1 => by omega)
    obtain ⟨B8, s1, s2, s3, s4, s5, s6⟩ := r_startSo e (by omega) y0 B7
    obtain ⟨Q, hQ⟩ : ∃ Q, Q = zup (zup A5 2 1 0) 51 0 (A5 2 10) := ⟨_, rfl⟩
    have hQP : vlP Q B5 := vl_fr mm2 (fun x y z => by rw [hQ, zup_f (by omega), zup_f (by omega)]) (fun _ _ _ => rfl)
    have hcV := s_copyV d 30 0 4 0 Q (by omega)
    have hcS := s_copyS d 37 0 11 0 (cpV Q 30 4) (by omega)
    have hcN := s_clearN (d + 1) (by omega) 46 0 (cpS (cpV Q 30 4) 37 11)
    have g7 : ∀ k, 0 ≤ k → k < 75 → B7 199 k = B5 200 k := fun k k0 k1 => by rw [o2 _ _ (by omega), n3 k k0 k1]
    refine ⟨zup (zup (zup (cpS (cpV Q 30 4) 37 11) 46 4 0) 46 5 0) 0 13 0, zup B8 197 24 0, i', ?_, ?_, fun x y h => ?_, fun x y h => ?_, ?_, ?_, ?_, Or.inl ⟨zup_e (by omega), zup_e (by omega), ?_, Q, B5, hQP, fun x y h1 h2 => ?_, fun x y h1 h2 => ?_, fun k k0 k1 => ?_, fun k k0 k1 => ?_, fun k k0 k1 => ?_, fun k k0 k1 => ?_, fun k k0 k1 => ?_, fun y hy => ?_⟩⟩
    · rw [hQ] at hcV hcS hcN ⊢
      simp (disch := first | assumption | exact zrm0 | exact zrm1 _ | exact zrm2 _ _ | exact zrm3 _ _ _ | exact zrm4 _ _ _ _ | omega) only [m3, ↓k_dp, ↓k_dn, k_dp, k_dn, k_dT, k_dF, k_ip, k_in, if_true, if_false, ne_eq, not_true_eq_false, not_false_eq_true, Int.reduceAdd, zup_a, zup_e, zup_j, z32_id, k_al0, k_gR, k_v1r, k_is1, k_ic, k_pI, k_gI, k_il1, k_ifge, k_isub, k_ri, k_v2, k_v1, zb0_some, zb1_some, e3_0, e3_1, e3_4, e3_7, e3_8, e3_9, e3_12, e3_13, e3_16, e3_17, e3_20, e3_21, e3_24, e3_27, e3_30, e3_31, e3_34, e3_35, e3_36, e3_39, e3_42, e3_43, e3_44, e3_45, e3_48, e3_49, e3_52, e3_55, e3_58, e3_59, e3_62, e3_63, e3_66, e3_69, e3_72, e3_73, e3_76, e3_79, e3_80, e3_81, e3_84, e3_85, hA, hcV, hcS, hcN]
    · refine (hB0.trans mm4).trans ?_
      have t1 : zEv true e 203 99 [(30, 197, y0), (0, i', 0), (3, 0, 0)] [] B5 = zEv true e 203 101 [(30, 197, y0), (0, i', 0), (0, 0, 0)] [] B5 := by
        simp (disch := first | assumption | exact zrm0 | exact zrm1 _ | exact zrm2 _ _ | exact zrm3 _ _ _ | exact zrm4 _ _ _ _ | omega) only [m203, ↓k_dp, ↓k_dn, k_dp, k_dn, k_dT, k_dF, k_ip, k_in, if_true, if_false, ne_eq, not_true_eq_false, not_false_eq_true, Int.reduceAdd, zup_a, zup_e, zup_j, z32_id, k_al0, k_ic, k_v2, k_is1, k_il1, k_icge, k_gR, k_ist, k_inc1, k_goto, k_bstZ, k_bstB, k_gI, k_ifeq, k_v1r, k_ifne, k_isub, k_ri, k_is2, k_il2, k_ild, k_ildS, k_ildW, k_inc2, k_lld, k_lst, k_v1, k_pI, zb0_some, zb1_some, e203_0, e203_1, e203_4, e203_7, e203_8, e203_9, e203_10, e203_12, e203_15, e203_16, e203_19, e203_20, e203_21, e203_22, e203_25, e203_28, e203_29, e203_30, e203_31, e203_33, e203_36, e203_37, e203_40, e203_41, e203_42, e203_43, e203_46, e203_49, e203_50, e203_53, e203_54, e203_55, e203_56, e203_57, e203_60, e203_61, e203_62, e203_63, e203_64, e203_65, e203_66, e203_69, e203_72, e203_73, e203_76, e203_79, e203_80, e203_83, e203_86, e203_87, e203_88, e203_91, e203_92, e203_93, e203_96, e203_99, e203_100, e203_102, e203_104, e203_107, e203_108, e203_111, e203_112, e203_113, e203_116, e203_117, e203_118, e203_119, e203_122, e203_125, e203_126, e203_127, e203_128, e203_130, e203_133, e203_134, e203_137, e203_138, e203_139, e203_142, e203_143, e203_144, e203_145, e203_148, e203_151, e203_152, e203_155, e203_156, e203_157, e203_160, e203_161]
      have t2 : zEv true e 203 125 [(30, 197, y0), (0, i', 0), (0, 75, 0)] [] B6 = zEv true e 203 127 [(30, 197, y0), (0, i', 0), (0, 0, 0)] [] B6 := by
        simp (disch := first | assumption | exact zrm0 | exact zrm1 _ | exact zrm2 _ _ | exact zrm3 _ _ _ | exact zrm4 _ _ _ _ | omega) only [m203, ↓k_dp, ↓k_dn, k_dp, k_dn, k_dT, k_dF, k_ip, k_in, if_true, if_false, ne_eq, not_true_eq_false, not_false_eq_true, Int.reduceAdd, zup_a, zup_e, zup_j, z32_id, k_al0, k_ic, k_v2, k_is1, k_il1, k_icge, k_gR, k_ist, k_inc1, k_goto, k_bstZ, k_bstB, k_gI, k_ifeq, k_v1r, k_ifne, k_isub, k_ri, k_is2, k_il2, k_ild, k_ildS, k_ildW, k_inc2, k_lld, k_lst, k_v1, k_pI, zb0_some, zb1_some, e203_0, e203_1, e203_4, e203_7, e203_8, e203_9, e203_10, e203_12, e203_15, e203_16, e203_19, e203_20, e203_21, e203_22, e203_25, e203_28, e203_29, e203_30, e203_31, e203_33, e203_36, e203_37, e203_40, e203_41, e203_42, e203_43, e203_46, e203_49, e203_50, e203_53, e203_54, e203_55, e203_56, e203_57, e203_60, e203_61, e203_62, e203_63, e203_64, e203_65, e203_66, e203_69, e203_72, e203_73, e203_76, e203_79, e203_80, e203_83, e203_86, e203_87, e203_88, e203_91, e203_92, e203_93, e203_96, e203_99, e203_100, e203_101, e203_102, e203_104, e203_107, e203_108, e203_111, e203_112, e203_113, e203_116, e203_117, e203_118, e203_119, e203_122, e203_125, e203_126, e203_128, e203_130, e203_133, e203_134, e203_137, e203_138, e203_139, e203_142, e203_143, e203_144, e203_145, e203_148, e203_151, e203_152, e203_155, e203_156, e203_157, e203_160, e203_161]
      rw [t1, n1, t2, o1]
      simp (disch := first | assumption | exact zrm0 | exact zrm1 _ | exact zrm2 _ _ | exact zrm3 _ _ _ | exact zrm4 _ _ _ _ | omega) only [m203, ↓k_dp, ↓k_dn, k_dp, k_dn, k_dT, k_dF, k_ip, k_in, if_true, if_false, ne_eq, not_true_eq_false, not_false_eq_true, Int.reduceAdd, zup_a, zup_e, zup_j, z32_id, k_al0, k_ic, k_v2, k_is1, k_il1, k_icge, k_gR, k_ist, k_inc1, k_goto, k_bstZ, k_bstB, k_gI, k_ifeq, k_v1r, k_ifne, k_isub, k_ri, k_is2, k_il2, k_ild, k_ildS, k_ildW, k_inc2, k_lld, k_lst, k_v1, k_pI, zb0_some, zb1_some, e203_0, e203_1, e203_4, e203_7, e203_8, e203_9, e203_10, e203_12, e203_15, e203_16, e203_19, e203_20, e203_21, e203_22, e203_25, e203_28, e203_29, e203_30, e203_31, e203_33, e203_36, e203_37, e203_40, e203_41, e203_42, e203_43, e203_46, e203_49, e203_50, e203_53, e203_54, e203_55, e203_56, e203_57, e203_60, e203_61, e203_62, e203_63, e203_64, e203_65, e203_66, e203_69, e203_72, e203_73, e203_76, e203_79, e203_80, e203_83, e203_86, e203_87, e203_88, e203_91, e203_92, e203_93, e203_96, e203_99, e203_100, e203_101, e203_102, e203_104, e203_107, e203_108, e203_111, e203_112, e203_113, e203_116, e203_117, e203_118, e203_119, e203_122, e203_125, e203_126, e203_127, e203_128, e203_130, e203_133, e203_134, e203_137, e203_138, e203_139, e203_142, e203_143, e203_144, e203_145, e203_148, e203_151, e203_152, e203_155, e203_156, e203_157, e203_160, e203_161, s1]
    · unfold zVc at h
      rw [zup_f (by omega), zup_f (by omega), zup_f (by omega), cpS_o (by omega), cpV_o (by omega), hQ, zup_f (by omega), zup_f (by omega), fA5 x y (by omega) (by omega) (by omega)]
    · unfold zVr at h
      rw [zup_f (by omega), s2 x y (by omega), o2 x y (by omega), n2 x y (by omega), fB5 x y (by omega) (by omega) (by omega) (by omega)]
    · rw [zup_f (by omega), zup_f (by omega), zup_f (by omega), cpS_o (by omega), cpV_o (by omega), hQ, zup_f (by omega), zup_e (by omega)]
    · rw [zup_f (by omega), s2 _ _ (by omega), o2 _ _ (by omega), n2 _ _ (by omega)]; exact w2
    · rw [zup_f (by omega), zup_f (by omega), zup_f (by omega), cpS_o (by omega), cpV_o (by omega), hQ, zup_e (by omega), zup_f (by omega), s2 _ _ (by omega), o2 _ _ (by omega), n2 _ _ (by omega), mm1.1.f0, mm1.1.g0]
    · rw [zup_f (by omega), zup_e (by omega)]
    · rw [zup_f (by omega), zup_f (by omega), zup_f (by omega), cpS_o (by omega)]
    · rw [zup_f (by omega), zup_f (by omega), zup_f (by omega)]
    · rw [zup_f (by omega), s2 _ _ (by omega)]; exact g7 k k0 k1
    · rw [zup_f (by omega), s2 _ _ (by omega), o3 k k0 k1]; exact n2 _ _ (by omega)
    · rw [zup_f (by omega), s3 k k0 k1]; exact g7 _ (by omega) (by omega)
    · rw [zup_f (by omega), zup_f (by omega), (s4 k k0 k1).1, (s4 k k0 k1).2]
      exact ⟨g7 _ (by omega) (by omega), g7 _ (by omega) (by omega)⟩
    · obtain ⟨u1, u2, u3, u4⟩ := s5 k k0 k1
      rw [zup_f (by omega), zup_f (by omega), zup_f (by omega), zup_f (by omega), u1, u2]
      exact ⟨g7 _ (by omega) (by omega), g7 _ (by omega) (by omega), u3, u4⟩
    · rw [zup_f (by omega)]; exact s6 y hy
