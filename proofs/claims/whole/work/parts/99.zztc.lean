/-! pairs on the empty valley, out of the others' texts (gensv.py) -/
theorem pairV_heard (d : Nat) (x0 z0 : Int) (M : zM) (hA : relA M) (hCC : relC M) (hV : emV M) (hE : relEs M) (hH : relH M) : zPairHA M (zEm true (d + 8) 32 [(29, 0, x0)] M) (fun M1 => zEm true (d + 8) 260 [(30, 197, z0)] M1) := by
  obtain ⟨⟨a1, a2⟩, a3, a4⟩ := hA
  obtain ⟨n0, n1, n2, n3, n4, n5⟩ := relC_n hCC
  obtain ⟨⟨g6, g6'⟩, ⟨g1, g2⟩, -⟩ := okG_M hCC.2
  obtain ⟨p1, p2, p3⟩ := pw_ok g1 g2
  obtain ⟨b1, b2, b3⟩ := a4 0 (by omega) (by omega)
  obtain ⟨c1, c2, c3⟩ := a4 1 (by omega) (by omega)
  have kc := c_heard d x0 M a1 hCC.2
  have relA_of : ∀ Z, Z 2 1 = 0 → Z 197 2 = 0 → (∀ i, Z 3 i = M 3 i) → (∀ i, Z 198 i = M 198 i) → relA Z := fun Z h1 h2 h3 h4 => ⟨by rw [h1]; omega, by rw [h1, h2], fun i i0 i1 => by rw [h3, h4]; exact a4 i i0 i1⟩
  by_cases c : M 2 1 = 2
  · obtain ⟨w, hw⟩ : ∃ w, w = zit (hC (zvS M 37) (zvG M 30) (M 3 0) (M 3 1)) (zshl 1 (M 30 7)).toNat 0 (0, zshl 1 (M 30 7) - 1, zit (fun h N => zup N 79 h 0) (M 30 7).toNat 0 (zup M 2 1 0)) := ⟨_, rfl⟩
    obtain ⟨k1, k2⟩ := kc.2 c w hw
    obtain ⟨M1, hM1⟩ : ∃ M1, M1 = if w.1 ≤ 0 then w.2.2 else zup (zup w.2.2 51 7 w.2.1) 51 8 (zit (eF (fun h => w.2.2 79 h) w.1) (M 30 7).toNat 0 (-1)) := ⟨_, rfl⟩
    rw [← hM1] at k1
    have m1 : ∀ x y, x ≠ 79 → ¬ (x = 2 ∧ y = 1) → ¬ (x = 51 ∧ (y = 7 ∨ y = 8)) → M1 x y = M x y := fun x y h1 h2 h3 => by
      rw [hM1]
      split
      · exact k2 x y h1 h2
      · unfold zup
        rw [if_neg (by omega), if_neg (by omega)]
        exact k2 x y h1 h2
    have eS : zrS M1 = sgS (zvS M 37) := by rw [zrS_eq (M := M) (fun y _ _ _ => m1 199 y (by omega) (by omega) (by omega))]; exact hE.1
    have eG : zrG M1 = zvG M 30 := by rw [zrG_eq (M := M) (fun y _ _ => m1 199 y (by omega) (by omega) (by omega))]; exact hCC.1
    have e80 : M1 198 0 = M 3 0 := by rw [m1 _ _ (by omega) (by omega) (by omega)]; exact b1
    have e81 : M1 198 1 = M 3 1 := by rw [m1 _ _ (by omega) (by omega) (by omega)]; exact c1
    have e1 : M1 199 1 = M 30 7 := by rw [m1 _ _ (by omega) (by omega) (by omega)]; exact n1
    have e2 : M1 197 2 = 2 := by rw [m1 _ _ (by omega) (by omega) (by omega), a3]; exact c
    have kr := (r_heard d z0 M1 (by rw [eS]; exact okS_sg hE.2.1.1.1) (by rw [eG]; exact hCC.2) (by rw [e80]; exact b2) (by rw [e80]; exact b3)).2 e2
    rw [eS, eG, e80, e81, e1, hR_sg] at kr
    obtain ⟨r, hr⟩ : ∃ r, r = zit (hR (zvS M 37) (zvG M 30) (M 3 0) (M 3 1)) (zshl 1 (M 30 7)).toNat 0 (0, zshl 1 (M 30 7) - 1, zit (fun h N => zup N 214 h 0) 10 0 (zup (zup M1 197 0 0) 197 2 0)) := ⟨_, rfl⟩
    have e7 : zvG M 30 0 7 = M 30 7 := zvG_0 (by omega) (by omega)
    have hrel := zit_rel (f := hC (zvS M 37) (zvG M 30) (M 3 0) (M 3 1)) (g := hR (zvS M 37) (zvG M 30) (M 3 0) (M 3 1)) (fun k (a b : hT) => a.1 = b.1 ∧ (0 ≤ a.1 ∧ a.1 ≤ k) ∧ a.2.1 = b.2.1 ∧ (∀ h, 0 ≤ h → h < 10 → 0 ≤ b.2.2 214 h ∧ b.2.2 214 h ≤ k) ∧ ∀ h, 0 ≤ h → h < M 30 7 → a.2.2 79 h = b.2.2 214 h) (zshl 1 (M 30 7)).toNat 0 (0, zshl 1 (M 30 7) - 1, zit (fun h N => zup N 79 h 0) (M 30 7).toNat 0 (zup M 2 1 0)) (0, zshl 1 (M 30 7) - 1, zit (fun h N => zup N 214 h 0) 10 0 (zup (zup M1 197 0 0) 197 2 0)) ⟨rfl, ⟨Int.le_refl _, Int.le_refl _⟩, rfl, fun h h0 h1 => by
        dsimp only
        rw [zit_pt (fun _ _ => 0) (by omega), if_pos ⟨rfl, h0, by omega⟩]; omega, fun h h0 h1 => by
        dsimp only
        rw [zit_pt (fun _ _ => 0) (by omega), zit_pt (fun _ _ => 0) (by omega), if_pos ⟨rfl, h0, by omega⟩, if_pos ⟨rfl, h0, by omega⟩]⟩ (fun k a b k0 k1 hp => by
        obtain ⟨q1, ⟨q2, q3⟩, q4, q5, q6⟩ := hp
        unfold hC hR
        split
        · dsimp only
          have hz : ∀ h, zbit k h = 0 ∨ zbit k h = 1 := fun h => zbit_01 k h
          have hb : ∀ h, 0 ≤ h → h < 10 → zit (fun h N => zup N 214 h (if zbit k h ≠ 0 then z32 (N 214 h + 1) else N 214 h)) 10 0 b.2.2 214 h = b.2.2 214 h + zbit k h := fun h h0 h1 => by
            rw [zit_pt (fun h a => if zbit k h ≠ 0 then z32 (a + 1) else a) (by omega), if_pos ⟨rfl, h0, by omega⟩]
            have := q5 h h0 h1
            rcases hz h with z | z
            · rw [z, if_neg (by omega)]; omega
            · rw [z, if_pos (by omega), z32_id (by omega) (by omega)]
          refine ⟨by rw [q1], by rw [z32_id (by omega) (by omega)]; omega, by rw [q4], fun h h0 h1 => ?_, fun h h0 h1 => ?_⟩
          · rw [hb h h0 h1]
            have := q5 h h0 h1
            rcases hz h with z | z <;> rw [z] <;> omega
          · rw [hb h h0 (by omega), zit_pt (fun h a => z32 (a + zbit k h)) (by omega), if_pos ⟨rfl, h0, by rw [e7]; omega⟩, q6 h h0 h1]
            have := q5 h h0 (by omega)
            rcases hz h with z | z <;> rw [z, z32_id (by omega) (by omega)]
        · exact ⟨q1, by omega, q4, fun h h0 h1 => by have := q5 h h0 h1; omega, q6⟩)
    rw [← hw, ← hr] at hrel
    obtain ⟨q1, ⟨q2, q3⟩, q4, q5, q6⟩ := hrel
    obtain ⟨s1, s2⟩ := kr r hr (by omega) (fun h h0 h1 => by have := q5 h h0 h1; omega)
    have hev : zit (eF (fun h => w.2.2 79 h) w.1) (M 30 7).toNat 0 (-1) = zit (eF (fun h => r.2.2 214 h) r.1) (M 30 7).toNat 0 (-1) := by
      rw [q1]
      refine zit_congrP (fun k b => -1 ≤ b ∧ b < k) _ _ _ ⟨by omega, by omega⟩ (fun k b k0 k1 hb => ⟨?_, ?_⟩)
      · unfold eF
        by_cases cb : b = -1
        · rw [if_pos cb, if_pos cb]
        · dsimp only
          rw [if_neg cb, if_neg cb]
          simp only [q6 k k0 (by omega), q6 b (by omega) (by omega)]
      · unfold eF
        split
        · omega
        · split <;> omega
    obtain ⟨h1, h2, h3, h4, h5, h6, h7, h8⟩ := hH
    have w21 : w.2.2 2 1 = 0 := by
      have : ∀ x y, x ≠ 79 → w.2.2 x y = zup M 2 1 0 x y := fun x y hx => by
        rw [hw]
        refine zit_inv (fun _ (p : hT) => p.2.2 x y = zup M 2 1 0 x y) _ _ _ ?_ (fun k p k0 k1 hp => by rw [hC_o hx]; exact hp)
        dsimp only
        rw [zit_pt (fun _ _ => 0) (by omega), if_neg (fun z => hx z.1)]
      rw [this _ _ (by omega), zup_e (by omega)]
    have r2 : r.2.2 197 2 = 0 := by
      have : ∀ x y, x ≠ 214 → r.2.2 x y = zup (zup M1 197 0 0) 197 2 0 x y := fun x y hx => by
        rw [hr]
        refine zit_inv (fun _ (p : hT) => p.2.2 x y = zup (zup M1 197 0 0) 197 2 0 x y) _ _ _ ?_ (fun k p k0 k1 hp => by rw [hR_o hx]; exact hp)
        dsimp only
        rw [zit_pt (fun _ _ => 0) (by omega), if_neg (fun z => hx z.1)]
      rw [this _ _ (by omega), zup_e (by omega)]
    have m121 : M1 2 1 = 0 := by
      rw [hM1]
      split
      · exact w21
      · rw [zup_a (by omega), zup_a (by omega)]; exact w21
    rw [q1] at k1
    by_cases cr : r.1 ≤ 0
    · rw [if_pos cr] at s1
      have e5 : M1 = w.2.2 := by rw [hM1, q1, if_pos cr]
      have zz : ∀ x y, x ≠ 79 → x ≠ 214 → ¬ (x = 2 ∧ y = 1) → ¬ (x = 197 ∧ (y = 0 ∨ y = 2)) → r.2.2 x y = M x y := fun x y z1 z2 z3 z4 => by rw [s2 x y z2 z4, e5, k2 x y z1 z3]
      refine ⟨r.1, M1, r.2.2, k1, s1, ?_, relA_of _ (by rw [s2 _ _ (by omega) (by omega)]; exact m121) r2 (fun i => zz _ _ (by omega) (by omega) (by omega) (by omega)) (fun i => zz _ _ (by omega) (by omega) (by omega) (by omega)), fun x y hx hy => ?_⟩
      · unfold relH
        simp (disch := omega) only [zz]
        exact ⟨h1, h2, h3, h4, h5, h6, h7, h8⟩
      · unfold zFH at hx
        unfold zFT at hy
        exact zz x y (by omega) (by omega) (by omega) (by omega)
    · rw [if_neg cr] at s1
      have e5 : M1 = zup (zup w.2.2 51 7 w.2.1) 51 8 (zit (eF (fun h => r.2.2 214 h) r.1) (M 30 7).toNat 0 (-1)) := by rw [hM1, hev, q1, if_neg cr]
      generalize zit (eF (fun h => r.2.2 214 h) r.1) (M 30 7).toNat 0 (-1) = ev at s1 e5
      have zz : ∀ x y, x ≠ 79 → x ≠ 214 → ¬ (x = 2 ∧ y = 1) → ¬ (x = 197 ∧ (y = 0 ∨ y = 2 ∨ y = 36 ∨ y = 37)) → ¬ (x = 51 ∧ (y = 7 ∨ y = 8)) → zup (zup r.2.2 197 36 r.2.1) 197 37 ev x y = M x y := fun x y z1 z2 z3 z4 z5 => by
        have : zup (zup r.2.2 197 36 r.2.1) 197 37 ev x y = r.2.2 x y := by unfold zup; rw [if_neg (by omega), if_neg (by omega)]
        rw [this, s2 x y z2 (by omega), m1 x y z1 z3 z5]
      have z7 : zup (zup r.2.2 197 36 r.2.1) 197 37 ev 51 7 = r.2.1 := by rw [zup_a (by omega), zup_a (by omega), s2 _ _ (by omega) (by omega), e5, zup_j (by omega), zup_e (by omega)]; exact q4
      have z8 : zup (zup r.2.2 197 36 r.2.1) 197 37 ev 51 8 = ev := by rw [zup_a (by omega), zup_a (by omega), s2 _ _ (by omega) (by omega), e5, zup_e (by omega)]
      have z36 : zup (zup r.2.2 197 36 r.2.1) 197 37 ev 197 36 = r.2.1 := by rw [zup_j (by omega), zup_e (by omega)]
      have z37 : zup (zup r.2.2 197 36 r.2.1) 197 37 ev 197 37 = ev := zup_e (by omega)
      refine ⟨r.1, M1, _, k1, s1, ?_, relA_of _ (by rw [zup_a (by omega), zup_a (by omega), s2 _ _ (by omega) (by omega)]; exact m121) (by rw [zup_j (by omega), zup_j (by omega)]; exact r2) (fun i => zz _ _ (by omega) (by omega) (by omega) (by omega) (by omega)) (fun i => zz _ _ (by omega) (by omega) (by omega) (by omega) (by omega)), fun x y hx hy => ?_⟩
      · unfold relH
        rw [z7, z8, z36, z37]
        simp (disch := omega) only [zz]
        exact ⟨h1, h2, h3, h4, h5, trivial, trivial, h8⟩
      · unfold zFH at hx
        unfold zFT at hy
        exact zz x y (by omega) (by omega) (by omega) (by omega) (by omega)
  · have k1 := kc.1 c
    have eS : zrS (zup M 2 1 0) = sgS (zvS M 37) := by rw [zrS_out (Or.inl (by omega))]; exact hE.1
    have eG : zrG (zup M 2 1 0) = zvG M 30 := by rw [zrG_out (Or.inl (by omega))]; exact hCC.1
    have e80 : zup M 2 1 0 198 0 = M 3 0 := by rw [zup_a (by omega)]; exact b1
    have s1 := (r_heard d z0 (zup M 2 1 0) (by rw [eS]; exact okS_sg hE.2.1.1.1) (by rw [eG]; exact hCC.2) (by rw [e80]; exact b2) (by rw [e80]; exact b3)).1 (by rw [zup_a (by omega), a3]; exact c)
    have zz : ∀ x y, ¬ (x = 2 ∧ y = 1) → ¬ (x = 197 ∧ (y = 0 ∨ y = 2)) → zup (zup (zup M 2 1 0) 197 0 0) 197 2 0 x y = M x y := fun x y z1 z2 => by
      unfold zup
      rw [if_neg (by omega), if_neg (by omega), if_neg (by omega)]
    refine ⟨-1, _, _, k1, s1, ?_, relA_of _ (by rw [zup_a (by omega), zup_a (by omega), zup_e (by omega)]) (zup_e (by omega)) (fun i => zz _ _ (by omega) (by omega)) (fun i => zz _ _ (by omega) (by omega)), fun x y hx hy => ?_⟩
    · unfold relH at hH ⊢
      simp (disch := omega) only [zz]
      exact hH
    · unfold zFT at hy
      exact zz x y (by omega) (by omega)
theorem pairV_agenda (d : Nat) (x0 z0 : Int) (M : zM) (hC : relC M) (hV : emV M) (hE : relEs M) (hH : relH M) : zPairH M (zEm true (d + 18) 29 [(29, 0, x0)] M) (fun M1 => zEm true (d + 18) 257 [(30, 197, z0)] M1) := by
  obtain ⟨n0, n1, n2, n3, n4, n5⟩ := relC_n hC
  obtain ⟨⟨g6, g6'⟩, ⟨g1, g2⟩, ⟨g3, g4⟩, -⟩ := okG_M hC.2
  obtain ⟨A, m, b, a1, a2, a3, a4, a5, a6, a7⟩ := c_agenda (d + 9) x0 M hC.2
  have e199 : ∀ y, A 199 y = M 199 y := fun y => a7 _ _ (by omega)
  have eS : zrS A = sgS (zvS M 37) := by rw [zrS_eq (fun y _ _ _ => e199 y)]; exact hE.1
  have eG : zrG A = zvG M 30 := by rw [zrG_eq (fun y _ _ => e199 y)]; exact hC.1
  have hm5 : 0 ≤ m ∧ m < 2 ^ (M 30 8).toNat := by
    unfold sThose at a1
    rw [zvG_0 (by omega) (by omega)] at a1
    have := those_bit (M 30 8).toNat 0 0 (Int.le_refl _) (by omega) (Int.le_refl _) (by decide) m a1
    rwa [show (0 + ((M 30 8).toNat : Int)).toNat = (M 30 8).toNat by omega] at this
  obtain ⟨N, b1, b2, b3, b4⟩ := r_agenda d z0 A (by rw [eS]; exact okS_sg hE.2.1.1.1) (by rw [eG]; exact hC.2) m (by rw [eS, eG, sThose_sg]; exact a1) a2.1 a2.2 (fun r r0 r1 hr => by
    rw [e199, n2]
    exact bitN_t hm5.1 g3 g4 hm5.2 r0 r1 hr)
  have hm0 : m = 0 := by
    rw [a1, sThose_0 (by rw [zvG_0 (by omega) (by omega)]; exact hV.2.2)]
  have hb00 : ∀ S G, bestL G S 0 [] (-1, []) (permsM (pM m).toNat m) = (0, []) := fun S G => by rw [hm0]; exact bestL_00
  have a3' : b = (0, []) := by rw [a3, hb00]
  rw [eS, eG, hb00, ← a3'] at b1 b3
  have hk := chkM_t a2.1 a2.2
  unfold chkM at hk
  simp only [Bool.and_eq_true, Bool.or_eq_true, decide_eq_true_eq] at hk
  obtain ⟨⟨⟨⟨⟨⟨⟨⟨-, -⟩, k3⟩, k4⟩, k5⟩, -⟩, -⟩, -⟩, -⟩ := hk
  have hpos : 0 ≤ b.1 := by
    rw [a3]
    refine bestL_pos (fun h => ?_)
    rw [h] at k3
    cases k3
  obtain ⟨b31, b32⟩ := b3 hpos
  obtain ⟨a51, a52⟩ := a5.2 hpos
  have fr : ∀ x y, ¬ (x = 80 ∨ x = 53 ∨ (68 ≤ x ∧ x ≤ 76) ∨ (x = 51 ∧ y = 6)) → ¬ (x = 211 ∨ x = 212 ∨ x = 213 ∨ (x = 197 ∧ (y = 0 ∨ y = 33 ∨ y = 34))) → N x y = M x y := fun x y h1 h2 => by rw [b4 x y h2, a7 x y h1]
  refine ⟨b.1, A, N, a4, b1, ?_, fun x y h => fr x y (by unfold zFH at h; omega) (by unfold zFH at h; omega)⟩
  obtain ⟨h1, h2, h3, ⟨h4, h5, h6⟩, -, h8, h9, h10, h11, h12⟩ := hH
  have e51 : ∀ y, y ≠ 6 → N 51 y = M 51 y := fun y h => fr _ _ (by omega) (by omega)
  have e197 : ∀ y, y ≠ 0 → y ≠ 33 → y ≠ 34 → N 197 y = M 197 y := fun y h1 h2 h3 => fr _ _ (by omega) (by omega)
  have e516 : N 51 6 = pM m := by rw [b4 _ _ (by omega)]; exact a6
  unfold relH
  rw [e516, b2]
  simp (disch := omega) only [e51, e197]
  refine ⟨h1, h2, h3, ⟨h4, h5, fun h p0 p1 => ?_⟩, ⟨⟨k4, k5⟩, trivial, fun k p0 p1 => ?_⟩, h8, h9, h10, h11, fun hx => ?_⟩
  · rw [fr _ _ (by omega) (by omega), fr _ _ (by omega) (by omega)]; exact h6 h p0 p1
  · rw [b32 k p0 (by omega), b4 _ _ (by omega), a52 k p0 (by omega)]
  · rw [fr _ _ (by omega) (by omega), fr _ _ (by omega) (by omega), fr _ _ (by omega) (by omega), fr _ _ (by omega) (by omega)]; exact h12 hx
theorem pairV_said (d : Nat) (x0 z0 k y1 z1 : Int) (M : zM) (hC : relC M) (hV : emV M) (hE : relEs M) (hG : relG M) : zPairS M (zEm true (d + 100) 42 [(29, 0, x0), (0, k, y1)] M) (fun M1 => zEm true (d + 100) 296 [(30, 197, z0), (0, k, z1)] M1) := by
  obtain ⟨n0, n1, n2, n3, n4, n5⟩ := relC_n hC
  obtain ⟨⟨g6, g6'⟩, ⟨g1, g2⟩, ⟨g3, g4⟩, -⟩ := okG_M hC.2
  rcases hG with ⟨a1, a2⟩ | ⟨⟨a1, a2⟩, ⟨a3, a4⟩, n, a5, a6⟩
  · refine ⟨-1, M, zup M 197 0 0, ?_, ?_, fun x y h => ?_⟩
    · simp (disch := first | assumption | exact zrm0 | exact zrm1 _ | exact zrm2 _ _ | exact zrm3 _ _ _ | exact zrm4 _ _ _ _ | omega) only [m42, ↓k_dp, ↓k_dn, k_dp, k_dn, k_dT, k_dF, k_ip, k_in, if_true, if_false, ne_eq, not_true_eq_false, not_false_eq_true, Int.reduceAdd, zup_a, zup_e, zup_j, z32_id, k_al0, k_gR, k_gI, k_ifeq, k_il1, k_ic, k_icge, k_ri, k_v3r, k_is2, k_icne, k_il2, k_s1r, k_is3, k_is4, k_il4, k_ishr, k_iand, k_il3, k_inc3, k_inc4, k_goto, zb0_some, zb1_some, e42_0, e42_1, e42_4, e42_7, e42_10, e42_11, e42_12, e42_15, e42_16, e42_17, e42_18, e42_21, e42_22, e42_25, e42_26, e42_29, e42_32, e42_33, e42_34, e42_35, e42_38, e42_39, e42_42, e42_43, e42_44, e42_45, e42_46, e42_50, e42_51, e42_54, e42_57, e42_60, e42_61, e42_63, e42_64, e42_65, e42_66, e42_69, e42_70, e42_71, e42_74, e42_76, e42_77, e42_80, e42_83, e42_86, e42_87, a1]
    · simp (disch := first | assumption | exact zrm0 | exact zrm1 _ | exact zrm2 _ _ | exact zrm3 _ _ _ | exact zrm4 _ _ _ _ | omega) only [m296, ↓k_dp, ↓k_dn, k_dp, k_dn, k_dT, k_dF, k_ip, k_in, if_true, if_false, ne_eq, not_true_eq_false, not_false_eq_true, Int.reduceAdd, zup_a, zup_e, zup_j, z32_id, k_al0, k_ic, k_pI, k_gR, k_ild, k_ildS, k_ildW, k_ifne, k_ri, k_is2, k_is3, k_il3, k_icge, k_v3r, k_goto, k_il2, k_il1, k_icne, k_inc2, k_inc3, zb0_some, zb1_some, e296_0, e296_1, e296_2, e296_5, e296_6, e296_9, e296_11, e296_12, e296_15, e296_16, e296_17, e296_18, e296_19, e296_20, e296_22, e296_23, e296_26, e296_27, e296_28, e296_31, e296_32, e296_33, e296_36, e296_38, e296_39, e296_40, e296_43, e296_46, e296_49, e296_50, e296_51, e296_54, e296_55, e296_56, e296_59, e296_62, e296_65, e296_66, e296_67, e296_70, e296_71, e296_74, e296_75, a2]
    · unfold zFS at h
      unfold zup
      rw [if_neg (by omega)]
  · have a6 : gR (M 47) (M 48) (M 49) (M 199) n 0 (M 46 4) (M 199 127) := a6
    obtain ⟨N, s, b1, b2, b3⟩ := s_handsOfWhich (d + 94) 0 0 0 M (M 199) g1 g2 n (M 199 127) a6
    have c46 : M 46 5 ≠ 0 := by omega
    have c126 : M 199 126 ≠ 0 := by omega
    have e307 : N 30 7 = M 30 7 := b2 _ _ (by omega)
    have e199 : N 199 = M 199 := by funext z; exact b2 _ _ (by omega)
    have hr : ∀ A : zM, (∀ x y, x ≠ 50 → A x y = M x y) → zEm true (d + 100) 296 [(30, 197, z0), (0, k, z1)] A = some ((0, if k = -1 then cntP (fun h => holdV (zvS M 37) (zvG M 30) (M 199) h n (M 199 127)) (M 30 7).toNat 0 0 else selP (fun h => holdV (zvS M 37) (zvG M 30) (M 199) h n (M 199 127)) k (M 30 7).toNat 0 0, 0), zup A 197 0 0) := by
      intro A hA
      have eA : (zup A 197 0 0) 199 = M 199 := by funext z; rw [zup_a (by omega)]; exact hA _ _ (by omega)
      have eS : zrS (zup A 197 0 0) = sgS (zvS M 37) := by rw [rT_S, zrS_eq (fun y _ _ _ => hA 199 y (by omega))]; exact hE.1
      have eG : zrG (zup A 197 0 0) = zvG M 30 := by rw [rT_G, zrG_eq (fun y _ _ => hA 199 y (by omega))]; exact hC.1
      have e126 : A 199 126 = 1 := by rw [hA _ _ (by omega)]; exact a2
      have key := r_said0 (d + 99) z0 k z1 (zup A 197 0 0) (fun h => holdV (zvS M 37) (zvG M 30) (M 199) h n (M 199 127)) (by rw [eA, n1]; exact g2) (fun h h0 h1 => by
        have := r_holds z0 (zup A 197 0 0) (M 47) (M 48) (M 49) (by rw [eG]; exact hC.2) n (d + 99) 0 (M 46 4) (zup A 197 0 0 199 127) 0 h 0 (by omega) (by rw [eA]; exact a6) h0 h1
        rw [eS, eG, eA, holdV_sg] at this
        rw [eA]
        exact this) (M 30 7).toNat 0 0 (by rw [eA, n1]; omega) (Int.le_refl _) (Int.le_refl _) (Int.le_refl _)
      simp (disch := first | assumption | exact zrm0 | exact zrm1 _ | exact zrm2 _ _ | exact zrm3 _ _ _ | exact zrm4 _ _ _ _ | omega) only [m296, ↓k_dp, ↓k_dn, k_dp, k_dn, k_dT, k_dF, k_ip, k_in, if_true, if_false, ne_eq, not_true_eq_false, not_false_eq_true, Int.reduceAdd, zup_a, zup_e, zup_j, z32_id, k_al0, k_ic, k_pI, k_gR, k_ild, k_ildS, k_ildW, k_ifne, k_ri, k_is2, k_is3, k_il3, k_icge, k_v3r, k_goto, k_il2, k_il1, k_icne, k_inc2, k_inc3, zb0_some, zb1_some, e296_0, e296_1, e296_2, e296_5, e296_6, e296_9, e296_11, e296_12, e296_15, e296_16, e296_17, e296_18, e296_19, e296_20, e296_22, e296_23, e296_26, e296_27, e296_28, e296_31, e296_32, e296_33, e296_36, e296_38, e296_39, e296_40, e296_43, e296_46, e296_49, e296_50, e296_51, e296_54, e296_55, e296_56, e296_59, e296_62, e296_65, e296_66, e296_67, e296_70, e296_71, e296_74, e296_75, e126]
      exact key
    have hc := b3
    by_cases c : k = -1
    · refine ⟨_, N, _, ?_, hr N b2, fun x y h => ?_⟩
      · rw [if_pos c]
        have hsum : kB 10 s = cntP (fun h => holdV (zvS M 37) (zvG M 30) (M 199) h n (M 199 127)) (M 30 7).toNat 0 0 := by
          rw [kB_sum b3.1.1 b3.1.2]
          exact cnt_sum g2 b3 (M 30 7).toNat 0 0 10 (Int.le_refl _) (by omega) (by omega)
        obtain ⟨s0, s1⟩ := b3.1
        rw [← hsum]
        simp (disch := first | assumption | exact zrm0 | exact zrm1 _ | exact zrm2 _ _ | exact zrm3 _ _ _ | exact zrm4 _ _ _ _ | omega) only [m42, ↓k_dp, ↓k_dn, k_dp, k_dn, k_dT, k_dF, k_ip, k_in, if_true, if_false, ne_eq, not_true_eq_false, not_false_eq_true, Int.reduceAdd, zup_a, zup_e, zup_j, z32_id, k_al0, k_gR, k_gI, k_ifeq, k_il1, k_ic, k_icge, k_ri, k_v3r, k_is2, k_icne, k_il2, k_s1r, k_is3, k_is4, k_il4, k_ishr, k_iand, k_il3, k_inc3, k_inc4, k_goto, zb0_some, zb1_some, e42_0, e42_1, e42_4, e42_7, e42_10, e42_11, e42_12, e42_15, e42_16, e42_17, e42_18, e42_21, e42_22, e42_25, e42_26, e42_29, e42_32, e42_33, e42_34, e42_35, e42_38, e42_39, e42_42, e42_43, e42_44, e42_45, e42_46, e42_50, e42_51, e42_54, e42_57, e42_60, e42_61, e42_63, e42_64, e42_65, e42_66, e42_69, e42_70, e42_71, e42_74, e42_76, e42_77, e42_80, e42_83, e42_86, e42_87, b1, s_bitCount]
      · unfold zFS at h
        have : zup N 197 0 0 x y = N x y := by unfold zup; rw [if_neg (by omega)]
        rw [this]
        exact b2 x y (by omega)
    · by_cases c2 : k < -1
      · refine ⟨-1, M, zup M 197 0 0, ?_, ?_, fun x y h => ?_⟩
        · simp (disch := first | assumption | exact zrm0 | exact zrm1 _ | exact zrm2 _ _ | exact zrm3 _ _ _ | exact zrm4 _ _ _ _ | omega) only [m42, ↓k_dp, ↓k_dn, k_dp, k_dn, k_dT, k_dF, k_ip, k_in, if_true, if_false, ne_eq, not_true_eq_false, not_false_eq_true, Int.reduceAdd, zup_a, zup_e, zup_j, z32_id, k_al0, k_gR, k_gI, k_ifeq, k_il1, k_ic, k_icge, k_ri, k_v3r, k_is2, k_icne, k_il2, k_s1r, k_is3, k_is4, k_il4, k_ishr, k_iand, k_il3, k_inc3, k_inc4, k_goto, zb0_some, zb1_some, e42_0, e42_1, e42_4, e42_7, e42_10, e42_11, e42_12, e42_15, e42_16, e42_17, e42_18, e42_21, e42_22, e42_25, e42_26, e42_29, e42_32, e42_33, e42_34, e42_35, e42_38, e42_39, e42_42, e42_43, e42_44, e42_45, e42_46, e42_50, e42_51, e42_54, e42_57, e42_60, e42_61, e42_63, e42_64, e42_65, e42_66, e42_69, e42_70, e42_71, e42_74, e42_76, e42_77, e42_80, e42_83, e42_86, e42_87]
        · have := hr M (fun _ _ _ => rfl)
          rw [if_neg c, selP_neg _ _ _ (by omega)] at this
          exact this
        · unfold zFS at h
          unfold zup
          rw [if_neg (by omega)]
      · refine ⟨_, N, _, ?_, hr N b2, fun x y h => ?_⟩
        · rw [if_neg c]
          have key := c_said0 (d + 99) x0 k y1 s N (fun h => holdV (zvS M 37) (zvG M 30) (M 199) h n (M 199 127)) (by rw [e307]; exact g2) (by rw [e307]; exact b3) (M 30 7).toNat 0 0 (by omega) (Int.le_refl _) (Int.le_refl _) (Int.le_refl _)
          simp (disch := first | assumption | exact zrm0 | exact zrm1 _ | exact zrm2 _ _ | exact zrm3 _ _ _ | exact zrm4 _ _ _ _ | omega) only [m42, ↓k_dp, ↓k_dn, k_dp, k_dn, k_dT, k_dF, k_ip, k_in, if_true, if_false, ne_eq, not_true_eq_false, not_false_eq_true, Int.reduceAdd, zup_a, zup_e, zup_j, z32_id, k_al0, k_gR, k_gI, k_ifeq, k_il1, k_ic, k_icge, k_ri, k_v3r, k_is2, k_icne, k_il2, k_s1r, k_is3, k_is4, k_il4, k_ishr, k_iand, k_il3, k_inc3, k_inc4, k_goto, zb0_some, zb1_some, e42_0, e42_1, e42_4, e42_7, e42_10, e42_11, e42_12, e42_15, e42_16, e42_17, e42_18, e42_21, e42_22, e42_25, e42_26, e42_29, e42_32, e42_33, e42_34, e42_35, e42_38, e42_39, e42_42, e42_43, e42_44, e42_45, e42_46, e42_50, e42_51, e42_54, e42_57, e42_60, e42_61, e42_63, e42_64, e42_65, e42_66, e42_69, e42_70, e42_71, e42_74, e42_76, e42_77, e42_80, e42_83, e42_86, e42_87, b1]
          exact key
        · unfold zFS at h
          have : zup N 197 0 0 x y = N x y := by unfold zup; rw [if_neg (by omega)]
          rw [this]
          exact b2 x y (by omega)
theorem pairV_undo (d : Nat) (x0 z0 : Int) (M : zM) (hC : relC M) (hV : emV M) (hE : relEs M) (hF : relFs M) : zPairDs M (zEm true (d + 8) 19 [(29, 0, x0)] M) (fun M1 => zEm true (d + 8) 239 [(30, 197, z0)] M1) := by
  have hF2 := hF
  obtain ⟨⟨f0, f1⟩, f2, f3, f4⟩ := hF2
  by_cases c : M 0 13 = 0
  · have f2' : M 197 24 = 0 := by omega
    obtain ⟨a1, aV, a2, a3⟩ := rel_keepS (M' := zup M 197 0 0) hC hV hE hF (fun x y hx => by unfold zup; rw [if_neg (by omega)])
    refine ⟨-1, M, zup M 197 0 0, by simp (disch := first | assumption | exact zrm0 | exact zrm1 _ | exact zrm2 _ _ | exact zrm3 _ _ _ | exact zrm4 _ _ _ _ | omega) only [m19, ↓k_dp, ↓k_dn, k_dp, k_dn, k_dT, k_dF, k_ip, k_in, if_true, if_false, ne_eq, not_true_eq_false, not_false_eq_true, Int.reduceAdd, zup_a, zup_e, zup_j, z32_id, k_al0, k_gI, k_ic, k_iclt, k_gR, k_len, k_icle, k_ri, k_dup, k_isub, k_pI, k_aldS, k_aldI, k_aldW, k_v2, zb0_some, zb1_some, e19_0, e19_1, e19_4, e19_5, e19_8, e19_9, e19_12, e19_13, e19_16, e19_17, e19_20, e19_21, e19_22, e19_23, e19_24, e19_27, e19_28, e19_29, e19_32, e19_33, e19_36, e19_37, e19_40, e19_41, e19_44, e19_45, e19_48, e19_49, e19_52, c], by simp (disch := first | assumption | exact zrm0 | exact zrm1 _ | exact zrm2 _ _ | exact zrm3 _ _ _ | exact zrm4 _ _ _ _ | omega) only [m239, ↓k_dp, ↓k_dn, k_dp, k_dn, k_dT, k_dF, k_ip, k_in, if_true, if_false, ne_eq, not_true_eq_false, not_false_eq_true, Int.reduceAdd, zup_a, zup_e, zup_j, z32_id, k_al0, k_ic, k_pI, k_gI, k_ifne, k_ri, k_dup, k_isub, k_is1, k_il1, k_icge, k_gR, k_iadd, k_imul, k_ild, k_ildS, k_ildW, k_ist, k_inc1, k_goto, e239_0, e239_1, e239_2, e239_5, e239_6, e239_9, e239_12, e239_13, e239_14, e239_15, e239_16, e239_19, e239_20, e239_21, e239_24, e239_25, e239_26, e239_27, e239_29, e239_32, e239_33, e239_36, e239_38, e239_39, e239_40, e239_41, e239_44, e239_46, e239_47, e239_50, e239_51, e239_52, e239_53, e239_54, e239_55, e239_58, e239_61, e239_62, e239_65, f2'], a1, aV, a2, a3, fun x y h => ?_⟩
    unfold zFD zFA zFR at h
    unfold zup
    rw [if_neg (by omega)]
  · obtain ⟨n, hn⟩ : ∃ n, n = M 0 13 - 1 := ⟨_, rfl⟩
    have hn0 : 0 ≤ n := by omega
    have hp := f3.1 n hn0 (by omega)
    obtain ⟨p, hpp⟩ : ∃ p, p = M 77 n := ⟨_, rfl⟩
    rw [← hpp] at hp
    have hp0 : 0 < p := by omega
    have e1 : M 0 13 - 1 = n := hn.symm
    have e2 : M 197 24 - 1 = n := by omega
    have hM : M 0 13 ≠ 0 := c
    have hpos : 0 < zup M 0 13 n 77 n := by rw [zup_a (by omega), ← hpp]; exact hp0
    have hR : M 197 24 ≠ 0 := by omega
    have hc : ∀ y, cpS (zup M 0 13 n) 37 p 0 y = zup M 0 13 n 0 y := fun y => cpS_o (by omega)
    have ho : ∀ x y, ¬ (37 ≤ x ∧ x ≤ 45) → ¬ (x = 0 ∧ y = 13) → cpS (zup M 0 13 n) 37 p x y = M x y := fun x y h h2 => by
      rw [cpS_o (by omega)]
      unfold zup
      rw [if_neg (fun z => h2 ⟨z.1, z.2.1⟩)]
    obtain ⟨N, hN⟩ : ∃ N, N = cpS (zup M 0 13 n) 37 p := ⟨_, rfl⟩
    have hcc : zEm true (d + 8) 19 [(29, 0, x0)] M = some ((0, n, 0), N) := by
      rw [hN]
      simp (disch := first | assumption | exact zrm0 | exact zrm1 _ | exact zrm2 _ _ | exact zrm3 _ _ _ | exact zrm4 _ _ _ _ | omega) only [m19, ↓k_dp, ↓k_dn, k_dp, k_dn, k_dT, k_dF, k_ip, k_in, if_true, if_false, ne_eq, not_true_eq_false, not_false_eq_true, Int.reduceAdd, zup_a, zup_e, zup_j, z32_id, k_al0, k_gI, k_ic, k_iclt, k_gR, k_len, k_icle, k_ri, k_dup, k_isub, k_pI, k_aldS, k_aldI, k_aldW, k_v2, zb0_some, zb1_some, e19_0, e19_1, e19_4, e19_5, e19_8, e19_9, e19_12, e19_13, e19_16, e19_17, e19_20, e19_21, e19_22, e19_23, e19_24, e19_27, e19_28, e19_29, e19_32, e19_33, e19_36, e19_37, e19_40, e19_41, e19_44, e19_45, e19_48, e19_49, e19_52, e1, hpp.symm, s_copyS, hc]
    rw [← hN] at ho
    have hN24 : N 197 24 = M 197 24 := ho _ _ (by omega) (by omega)
    obtain ⟨T, hT⟩ : ∃ T, T = zup (zup N 197 0 0) 197 24 n := ⟨_, rfl⟩
    have hT24 : T 197 24 = n := by rw [hT, zup_e (by omega)]
    have hl := zfor (ph := true) (d := d + 7) (j := 239) (pc := 26) (fun k U => zup U 199 (75 + k) (U 202 (51 * n + k))) (fun k U => 0 ≤ k ∧ U 197 24 = n) (fun k _ => [(30, 197, z0), (0, k, 0)]) (fun U => U) 51
      (fun k b hk hP => ⟨by
        obtain ⟨h0, h1⟩ := hP
        rw [e239_26]
        simp (disch := first | assumption | exact zrm0 | exact zrm1 _ | exact zrm2 _ _ | exact zrm3 _ _ _ | exact zrm4 _ _ _ _ | omega) only [m239, ↓k_dp, ↓k_dn, k_dp, k_dn, k_dT, k_dF, k_ip, k_in, if_true, if_false, ne_eq, not_true_eq_false, not_false_eq_true, Int.reduceAdd, zup_a, zup_e, zup_j, z32_id, k_al0, k_ic, k_pI, k_gI, k_ifne, k_ri, k_dup, k_isub, k_is1, k_il1, k_icge, k_gR, k_iadd, k_imul, k_ild, k_ildS, k_ildW, k_ist, k_inc1, k_goto, e239_0, e239_1, e239_2, e239_5, e239_6, e239_9, e239_12, e239_13, e239_14, e239_15, e239_16, e239_19, e239_20, e239_21, e239_24, e239_25, e239_27, e239_29, e239_32, e239_33, e239_36, e239_38, e239_39, e239_40, e239_41, e239_44, e239_46, e239_47, e239_50, e239_51, e239_52, e239_53, e239_54, e239_55, e239_58, e239_61, e239_62, e239_65, h1], by omega, by rw [zup_a (by omega)]; exact hP.2⟩) 51 0 T (by omega) ⟨Int.le_refl _, hT24⟩
    rw [zit_cpy (by omega) (Or.inl (by omega))] at hl
    obtain ⟨h1, -, h2⟩ := hl
    have hrc : zEm true (d + 8) 239 [(30, 197, z0)] N = some ((0, n, 0), zcpy T 202 (51 * n) 199 75 (51 : Nat)) := by
      have hR2 : N 197 24 ≠ 0 := by omega
      have e3 : N 197 24 - 1 = n := by omega
      simp (disch := first | assumption | exact zrm0 | exact zrm1 _ | exact zrm2 _ _ | exact zrm3 _ _ _ | exact zrm4 _ _ _ _ | omega) only [m239, ↓k_dp, ↓k_dn, k_dp, k_dn, k_dT, k_dF, k_ip, k_in, if_true, if_false, ne_eq, not_true_eq_false, not_false_eq_true, Int.reduceAdd, zup_a, zup_e, zup_j, z32_id, k_al0, k_ic, k_pI, k_gI, k_ifne, k_ri, k_dup, k_isub, k_is1, k_il1, k_icge, k_gR, k_iadd, k_imul, k_ild, k_ildS, k_ildW, k_ist, k_inc1, k_goto, e239_0, e239_1, e239_2, e239_5, e239_6, e239_9, e239_12, e239_13, e239_14, e239_15, e239_16, e239_19, e239_20, e239_21, e239_24, e239_25, e239_27, e239_29, e239_32, e239_33, e239_36, e239_38, e239_39, e239_40, e239_41, e239_44, e239_46, e239_47, e239_50, e239_51, e239_52, e239_53, e239_54, e239_55, e239_58, e239_61, e239_62, e239_65, e3, hT.symm]
      rw [h1]
      simp (disch := first | assumption | exact zrm0 | exact zrm1 _ | exact zrm2 _ _ | exact zrm3 _ _ _ | exact zrm4 _ _ _ _ | omega) only [m239, ↓k_dp, ↓k_dn, k_dp, k_dn, k_dT, k_dF, k_ip, k_in, if_true, if_false, ne_eq, not_true_eq_false, not_false_eq_true, Int.reduceAdd, zup_a, zup_e, zup_j, z32_id, k_al0, k_ic, k_pI, k_gI, k_ifne, k_ri, k_dup, k_isub, k_is1, k_il1, k_icge, k_gR, k_iadd, k_imul, k_ild, k_ildS, k_ildW, k_ist, k_inc1, k_goto, e239_0, e239_1, e239_2, e239_5, e239_6, e239_9, e239_12, e239_13, e239_14, e239_15, e239_16, e239_19, e239_20, e239_21, e239_24, e239_25, e239_26, e239_27, e239_29, e239_32, e239_33, e239_36, e239_38, e239_39, e239_40, e239_41, e239_44, e239_46, e239_47, e239_50, e239_51, e239_52, e239_53, e239_54, e239_55, e239_58, e239_61, e239_62, e239_65, h2]
    obtain ⟨Z, hZ⟩ : ∃ Z, Z = zcpy T 202 (51 * n) 199 75 (51 : Nat) := ⟨_, rfl⟩
    rw [← hZ] at hrc h2
    have hTo : ∀ x y, ¬ (x = 197 ∧ (y = 0 ∨ y = 24)) → T x y = N x y := fun x y h => by
      rw [hT]
      unfold zup
      rw [if_neg (by omega), if_neg (by omega)]
    have hZo : ∀ x y, ¬ (x = 199 ∧ 75 ≤ y ∧ y ≤ 125) → Z x y = T x y := fun x y h => by rw [hZ, zcpy_z (by omega)]
    have hZi : ∀ k, 0 ≤ k → k < 51 → Z 199 (75 + k) = M 202 (51 * n + k) := fun k k0 k1 => by
      rw [hZ, zcpy_i (by omega) (by omega) (by omega), hTo _ _ (by omega), ho _ _ (by omega) (by omega)]
      congr 1
      omega
    have hZM : ∀ x y, ¬ (37 ≤ x ∧ x ≤ 45) → ¬ (x = 0 ∧ y = 13) → ¬ (x = 197 ∧ (y = 0 ∨ y = 24)) → ¬ (x = 199 ∧ 75 ≤ y ∧ y ≤ 125) → Z x y = M x y := fun x y a1 a2 a3 a4 => by rw [hZo x y a4, hTo x y a3, ho x y a1 a2]
    have eG : zvG Z 30 = zvG M 30 := zvG_eq (fun x y a1 a2 => hZM x y (by omega) (by omega) (by omega) (by omega))
    have eQ : zrG Z = zrG M := zrG_eq (fun y a1 a2 => hZM 199 y (by omega) (by omega) (by omega) (by omega))
    have eS : zvS Z 37 = zvS M p := by
      rw [zvS_eq (M := N) (fun x y a1 a2 => by rw [hZo x y (by omega), hTo x y (by omega)]), hN, zvS_cp (by omega) (by omega)]
      exact zvS_eq (fun x y a1 a2 => zup_a (by omega))
    have eR : zrS Z = zsS M (51 * n) := by
      funext i y
      unfold zrS zsS
      by_cases hd : sdom i y
      · have hb := rix_bd hd
        rw [zif_t hd, zif_t hd]
        have := hZi (rix i y - 75) (by omega) (by omega)
        rw [show 75 + (rix i y - 75) = rix i y by omega] at this
        exact this
      · rw [zif_f hd, zif_f hd]
    obtain ⟨k1, k2, k3⟩ := f4 n hn0 (by omega)
    rw [← hpp] at k1 k2
    have e13 : Z 0 13 = n := by rw [hZo _ _ (by omega), hTo _ _ (by omega), hN, hc, zup_e (by omega)]
    have e77 : ∀ i, Z 77 i = M 77 i := fun i => hZM _ _ (by omega) (by omega) (by omega) (by omega)
    refine ⟨n, N, Z, hcc, hrc, ⟨by rw [eG, eQ]; exact hC.1, by rw [eG]; exact hC.2⟩, emV_fr hV (fun y _ _ => hZM 30 y (by omega) (by omega) (by omega) (by omega)), ⟨by rw [eR, eS]; exact k1, by rw [eS, eG]; exact k2, ?_⟩, ⟨by rw [e13]; omega, by rw [e13]; exact h2, okP_eq e77 f3, fun i i0 i1 => ?_⟩, fun x y h => ?_⟩
    · have := hZi 3 (by omega) (by omega)
      rw [show (75 : Int) + 3 = 78 from rfl] at this
      rw [this, k3]
    · rw [e13] at i1
      obtain ⟨q1, q2, q3⟩ := f4 i i0 (by omega)
      have hq := f3.1 i i0 (by omega)
      have eV : zvS Z (M 77 i) = zvS M (M 77 i) := zvS_eq (fun x y a1 a2 => hZM x y (by omega) (by omega) (by omega) (by omega))
      have eZ : zsS Z (51 * i) = zsS M (51 * i) := zsS_eq (fun y a1 a2 => hZM 202 y (by omega) (by omega) (by omega) (by omega))
      rw [e77, eV, eZ, eG, hZM 202 _ (by omega) (by omega) (by omega) (by omega)]
      exact ⟨q1, q2, q3⟩
    · unfold zFD zFA zFC zFR at h
      exact hZM x y (by omega) (by omega) (by omega) (by omega)
theorem pair_doneBS {M S' M1 M2 : zM} (hC : relC M) (hV : emV M) (hE : relEs M) (hF : relFs M)
    (c1 : ∀ x y, ¬ (x = 0 ∧ y = 14) → ¬ zFC x y → M1 x y = M x y) (c2 : zvS M1 37 = S') (c3 : okP M1) (c4 : M1 0 13 = (if M 0 13 = 8 then 8 else M 0 13 + 1)) (c5 : zvS M1 (M1 77 (M1 0 13 - 1)) = zvS M 37) (c6 : ∀ i, 0 ≤ i → i < M1 0 13 - 1 → zvS M1 (M1 77 i) = zvS M (M 77 (if M 0 13 = 8 then i + 1 else i)))
    (r1 : ∀ x y, ¬ (x = 199 ∧ 75 ≤ y ∧ y ≤ 125) → ¬ (x = 197 ∧ y = 40) → M2 x y = mSnap (zup M1 197 0 0) x y) (r2 : zrS M2 = sgS S') (r3 : M2 199 78 = 0) (hok : okTs S' (zvG M 30)) : relC M2 ∧ emV M2 ∧ relEs M2 ∧ relFs M2 ∧ ∀ x y, ¬ zFD x y → M2 x y = M x y := by
  have hF2 := hF
  obtain ⟨⟨f0, f1⟩, f2, f3, f4⟩ := hF2
  obtain ⟨M0, hM0⟩ : ∃ M0, M0 = zup M 0 14 (M1 0 14) := ⟨_, rfl⟩
  have e0 : ∀ x y, ¬ (x = 0 ∧ y = 14) → M0 x y = M x y := fun x y h => by rw [hM0]; unfold zup; rw [if_neg (fun z => h ⟨z.1, z.2.1⟩)]
  obtain ⟨hC0, hV0, hE0, hF0⟩ := rel_keepS (M' := M0) hC hV hE hF (fun x y h => e0 x y (by omega))
  have hc : cDone M0 S' M1 := by
    have v37 : zvS M0 37 = zvS M 37 := zvS_eq (fun x y h1 h2 => e0 x y (by omega))
    refine ⟨fun x y h => ?_, c2, c3, by rw [c4, e0 0 13 (by omega)], by rw [c5, v37], fun i i0 i1 => ?_⟩
    · by_cases c : x = 0 ∧ y = 14
      · rw [c.1, c.2, hM0, zup_e (by omega)]
      · rw [c1 x y c h, e0 x y c]
    · have hn : 0 ≤ (if M 0 13 = 8 then i + 1 else i) ∧ (if M 0 13 = 8 then i + 1 else i) < 8 := by
        by_cases c : M 0 13 = 8
        · rw [if_pos c] at c4 ⊢; omega
        · rw [if_neg c] at c4 ⊢; omega
      have hq := f3.1 _ hn.1 hn.2
      rw [c6 i i0 i1, e0 0 13 (by omega), e0 77 _ (by omega)]
      exact (zvS_eq (fun x y h1 h2 => e0 x y (by omega))).symm
  obtain ⟨Z, hZ⟩ : ∃ Z, Z = zup M2 197 40 (M1 197 40) := ⟨_, rfl⟩
  have eZ : ∀ x y, ¬ (x = 197 ∧ y = 40) → Z x y = M2 x y := fun x y h => by rw [hZ]; unfold zup; rw [if_neg (fun z => h ⟨z.1, z.2.1⟩)]
  have n24 : M1 197 24 = M 197 24 := c1 197 24 (by omega) (by unfold zFC; omega)
  have e24 : zup M1 197 0 0 197 24 = M1 197 24 := zup_j (by omega)
  have hsn := mSnap_ok (M := zup M1 197 0 0) (by rw [e24]; omega) (by rw [e24]; omega)
  have hr : rDone M1 (sgS S') 0 Z := by
    obtain ⟨k1, k2, k3, k4, k5⟩ := hsn
    rw [e24] at k2 k5
    have e3 : zrS (zup M1 197 0 0) = zrS M1 := zrS_out (Or.inl (by omega))
    have e4 : ∀ o, zsS (zup M1 197 0 0) o = zsS M1 o := fun o => zsS_eq (fun y _ _ => zup_a (by omega))
    have z202 : ∀ y, Z 202 y = mSnap (zup M1 197 0 0) 202 y := fun y => by rw [eZ _ _ (by omega), r1 _ _ (by omega) (by omega)]
    have z24 : Z 197 24 = mSnap (zup M1 197 0 0) 197 24 := by rw [eZ _ _ (by omega), r1 _ _ (by omega) (by omega)]
    have zs : ∀ o, zsS Z o = zsS (mSnap (zup M1 197 0 0)) o := fun o => zsS_eq (fun y _ _ => z202 y)
    refine ⟨fun x y h => ?_, ?_, by rw [eZ _ _ (by omega)]; exact r3, by rw [z24, k2], by rw [z24, zs, k3, e3], by rw [z24, z202, k4, zup_a (by omega)], fun i i0 i1 => ?_⟩
    · unfold zFR at h
      by_cases c : x = 197 ∧ y = 40
      · rw [c.1, c.2, hZ, zup_e (by omega)]
      · have : zup M1 197 0 0 x y = M1 x y := by unfold zup; rw [if_neg (by omega)]
        rw [eZ x y c, r1 x y (by omega) c, k1 x y (by omega), this]
    · rw [← r2]; exact zrS_eq (fun y _ _ _ => eZ 199 y (by omega))
    · rw [z24] at i1
      obtain ⟨a1, a2⟩ := k5 i i0 i1
      rw [zs, z202, a1, a2, e4, zup_a (by omega)]
      exact ⟨rfl, rfl⟩
  have g30 : zvG M0 30 = zvG M 30 := zvG_eq (fun x y h1 h2 => e0 x y (by omega))
  obtain ⟨p1, pV, p2, p3, p4⟩ := pair_doneS hC0 hV0 hE0 hF0 hc hr (by rw [g30]; exact hok)
  have eZ' : ∀ x y, ¬ (x = 197 ∧ y = 40) → M2 x y = Z x y := fun x y h => (eZ x y h).symm
  obtain ⟨q1, qV, q2, q3⟩ := rel_keepS (M' := M2) p1 pV p2 p3 (fun x y h => eZ' x y (by omega))
  refine ⟨q1, qV, q2, q3, fun x y h => ?_⟩
  have h14 : ¬ (x = 0 ∧ y = 14) := fun z => h (Or.inr (Or.inl z))
  have h40 : ¬ (x = 197 ∧ y = 40) := fun z => h (Or.inr (Or.inr (Or.inl z)))
  have hA : ¬ zFA x y := fun z => h (Or.inl z)
  rw [eZ' x y h40, p4 x y hA, e0 x y h14]
theorem pairV_days (d : Nat) (x0 z0 n y1 z1 : Int) (M : zM) (hC : relC M) (hV : emV M) (hE : relEs M) (hF : relFs M) : zPairDs M (zEm true (d + 8) 18 [(29, 0, x0), (0, n, y1)] M) (fun M1 => zEm true (d + 8) 242 [(30, 197, z0), (0, n, z1)] M1) := by
  have hG := hC.2
  obtain ⟨n0, n1, n2, n3, n4, n5⟩ := relC_n hC
  have st := relEs_d hE
  have hF2 := hF
  obtain ⟨⟨f0, f1⟩, f2, f3, f4⟩ := hF2
  have hday := hE.2.1.1.1.2.2.1
  rw [zvS_0 (by omega) (by omega)] at hday
  have keep : ∀ M1, (∀ x y, ¬ (59 ≤ x ∧ x ≤ 67) → M1 x y = M x y) → (relC (zup M1 197 0 0) ∧ emV (zup M1 197 0 0) ∧ relEs (zup M1 197 0 0) ∧ relFs (zup M1 197 0 0)) ∧ ∀ x y, ¬ zFD x y → zup M1 197 0 0 x y = M x y := by
    intro M1 h
    refine ⟨rel_keepS hC hV hE hF (fun x y hx => ?_), fun x y hx => ?_⟩
    · have : zup M1 197 0 0 x y = M1 x y := by unfold zup; rw [if_neg (by omega)]
      rw [this, h x y (by omega)]
    · unfold zFD zFA zFC zFR at hx
      have : zup M1 197 0 0 x y = M1 x y := by unfold zup; rw [if_neg (by omega)]
      rw [this, h x y (by omega)]
  by_cases c1 : 1 ≤ n ∧ n ≤ 60
  · obtain ⟨c1, c2⟩ := c1
    have oD : okD (zvS M 37) (zvG M 30) := ⟨zt_v, hE.2.1.1⟩
    obtain ⟨m, hm⟩ : ∃ m : Nat, (m : Int) = sMin n (400 - M 37 10) := ⟨(sMin n (400 - M 37 10)).toNat, by unfold sMin; split <;> omega⟩
    have hm1 : (m : Int) ≤ n ∧ M 37 10 + m ≤ 400 ∧ ((m : Int) = n ∨ M 37 10 + m = 400) := by rw [hm]; unfold sMin; split <;> omega
    obtain ⟨k, hk⟩ : ∃ k : Nat, (k : Int) = n - m := ⟨(n - m).toNat, by omega⟩
    have e10 : zvS M 37 0 10 = M 37 10 := zvS_0 (by omega) (by omega)
    have e37 : zput (cpS M 59 37) 37 (zvS M 37) = cpS M 59 37 := by
      have : zvS M 37 = zvS (cpS M 59 37) 37 := by rw [zvS_cpo (by omega)]
      rw [this, zput_self]
    have hcd := c_days0 (d + 2) x0 n y1 (cpS M 59 37) (by rw [zvG_cpo (by omega)]; exact hG) c2 m k 0 0 (zvS M 37) (by rw [zvG_cpo (by omega)]; exact oD) (Int.le_refl _) (by omega) (Int.le_refl _) (Int.le_refl _) (by rw [e10]; omega) (by rw [e10]; omega)
    rw [e37, zvG_cpo (by omega), Int.zero_add] at hcd
    obtain ⟨ok1, ok2, ok3⟩ := tDays_ok hG m (zvS M 37) oD (by rw [e10]; omega)
    have hz : zt (tDays (zvG M 30) m (zvS M 37)) = tDays (zvG M 30) m (zvS M 37) := ok1.1
    by_cases cm : m = 0
    · have hd4 : M 37 10 = 400 := by omega
      subst cm
      have hcd : zEv true (d + 7) 18 28 [(29, 0, x0), (0, n, y1), (0, 0, 0), (0, 0, 0)] [] (cpS M 59 37) = zEv true (d + 7) 18 56 [(29, 0, x0), (0, n, y1), (0, 0, 0), (0, n, 0)] [] (cpS M 59 37) := by
        rw [hcd]
        show zEv true (d + 7) 18 56 [(29, 0, x0), (0, n, y1), (0, 0, 0), (0, n, 0)] [] (zput (cpS M 59 37) 37 (zvS M 37)) = _
        rw [e37]
      obtain ⟨⟨q1, qV, q2, q3⟩, q4⟩ := keep (cpS M 59 37) (fun x y h1 => cpS_o (by omega))
      refine ⟨0, cpS M 59 37, zup (cpS M 59 37) 197 0 0, ?_, ?_, q1, qV, q2, q3, q4⟩
      · simp (disch := first | assumption | exact zrm0 | exact zrm1 _ | exact zrm2 _ _ | exact zrm3 _ _ _ | exact zrm4 _ _ _ _ | omega) only [m18, ↓k_dp, ↓k_dn, k_dp, k_dn, k_dT, k_dF, k_ip, k_in, if_true, if_false, ne_eq, not_true_eq_false, not_false_eq_true, Int.reduceAdd, zup_a, zup_e, zup_j, z32_id, k_il1, k_ic, k_iclt, k_icle, k_ri, k_al0, k_gR, k_v2, k_is2, k_is3, k_il3, k_icge, k_v2r, k_ifeq, k_inc2, k_inc3, k_goto, k_il2, k_ifle, k_v1, zb0_some, zb1_some, e18_0, e18_1, e18_2, e18_5, e18_6, e18_8, e18_11, e18_12, e18_13, e18_14, e18_17, e18_18, e18_21, e18_24, e18_25, e18_26, e18_27, e18_29, e18_30, e18_33, e18_34, e18_37, e18_38, e18_41, e18_44, e18_47, e18_50, e18_53, e18_56, e18_57, e18_60, e18_61, e18_64, e18_65, s_copyS]
        rw [hcd]
        simp (disch := first | assumption | exact zrm0 | exact zrm1 _ | exact zrm2 _ _ | exact zrm3 _ _ _ | exact zrm4 _ _ _ _ | omega) only [m18, ↓k_dp, ↓k_dn, k_dp, k_dn, k_dT, k_dF, k_ip, k_in, if_true, if_false, ne_eq, not_true_eq_false, not_false_eq_true, Int.reduceAdd, zup_a, zup_e, zup_j, z32_id, k_il1, k_ic, k_iclt, k_icle, k_ri, k_al0, k_gR, k_v2, k_is2, k_is3, k_il3, k_icge, k_v2r, k_ifeq, k_inc2, k_inc3, k_goto, k_il2, k_ifle, k_v1, zb0_some, zb1_some, e18_0, e18_1, e18_2, e18_5, e18_6, e18_8, e18_11, e18_12, e18_13, e18_14, e18_17, e18_18, e18_21, e18_24, e18_25, e18_26, e18_27, e18_28, e18_29, e18_30, e18_33, e18_34, e18_37, e18_38, e18_41, e18_44, e18_47, e18_50, e18_53, e18_56, e18_57, e18_60, e18_61, e18_64, e18_65]
      · have hx2 : cpS M 59 37 199 75 = M 199 75 := cpS_o (by omega)
        have hin : (1 ≤ n ∧ n ≤ 60) := ⟨c1, c2⟩
        simp (disch := first | assumption | exact zrm0 | exact zrm1 _ | exact zrm2 _ _ | exact zrm3 _ _ _ | exact zrm4 _ _ _ _ | omega) only [m242, ↓k_dp, ↓k_dn, k_dp, k_dn, k_dT, k_dF, k_ip, k_in, if_true, if_false, ne_eq, not_true_eq_false, not_false_eq_true, Int.reduceAdd, zup_a, zup_e, zup_j, z32_id, k_al0, k_ic, k_pI, k_il1, k_s3r, k_ifne, k_ri, k_gR, k_ild, k_ildS, k_ildW, k_icne, k_v1, k_v2r, zb0_some, zb1_some, e242_0, e242_1, e242_2, e242_5, e242_6, e242_7, e242_9, e242_12, e242_15, e242_16, e242_17, e242_18, e242_21, e242_23, e242_24, e242_27, e242_30, e242_31, e242_32, e242_33, e242_36, e242_37, e242_38, e242_41, r_isIn, if_pos hin, hx2, st, hd4]
    · obtain ⟨M1, h1, b1, b2, b3, b4, b5, b6⟩ := c_doneB (d + 5) x0 M (tDays (zvG M 30) m (zvS M 37)) (cpS M 59 37) (fun x y h => rfl) hz f0 f1 f3
      have hm0 : 0 < (m : Int) := by omega
      have hcc : zEm true (d + 8) 18 [(29, 0, x0), (0, n, y1)] M = some ((0, (m : Int), 0), M1) := by
        generalize (m : Int) = v at hcd hm0 ⊢
        simp (disch := first | assumption | exact zrm0 | exact zrm1 _ | exact zrm2 _ _ | exact zrm3 _ _ _ | exact zrm4 _ _ _ _ | omega) only [m18, ↓k_dp, ↓k_dn, k_dp, k_dn, k_dT, k_dF, k_ip, k_in, if_true, if_false, ne_eq, not_true_eq_false, not_false_eq_true, Int.reduceAdd, zup_a, zup_e, zup_j, z32_id, k_il1, k_ic, k_iclt, k_icle, k_ri, k_al0, k_gR, k_v2, k_is2, k_is3, k_il3, k_icge, k_v2r, k_ifeq, k_inc2, k_inc3, k_goto, k_il2, k_ifle, k_v1, zb0_some, zb1_some, e18_0, e18_1, e18_2, e18_5, e18_6, e18_8, e18_11, e18_12, e18_13, e18_14, e18_17, e18_18, e18_21, e18_24, e18_25, e18_26, e18_27, e18_29, e18_30, e18_33, e18_34, e18_37, e18_38, e18_41, e18_44, e18_47, e18_50, e18_53, e18_56, e18_57, e18_60, e18_61, e18_64, e18_65, s_copyS]
        rw [hcd]
        simp (disch := first | assumption | exact zrm0 | exact zrm1 _ | exact zrm2 _ _ | exact zrm3 _ _ _ | exact zrm4 _ _ _ _ | omega) only [m18, ↓k_dp, ↓k_dn, k_dp, k_dn, k_dT, k_dF, k_ip, k_in, if_true, if_false, ne_eq, not_true_eq_false, not_false_eq_true, Int.reduceAdd, zup_a, zup_e, zup_j, z32_id, k_il1, k_ic, k_iclt, k_icle, k_ri, k_al0, k_gR, k_v2, k_is2, k_is3, k_il3, k_icge, k_v2r, k_ifeq, k_inc2, k_inc3, k_goto, k_il2, k_ifle, k_v1, zb0_some, zb1_some, e18_0, e18_1, e18_2, e18_5, e18_6, e18_8, e18_11, e18_12, e18_13, e18_14, e18_17, e18_18, e18_21, e18_24, e18_25, e18_26, e18_27, e18_28, e18_29, e18_30, e18_33, e18_34, e18_37, e18_38, e18_41, e18_44, e18_47, e18_50, e18_53, e18_56, e18_57, e18_60, e18_61, e18_64, e18_65, h1]
      obtain ⟨B, hB⟩ : ∃ B, B = mSnap (zup M1 197 0 0) := ⟨_, rfl⟩
      have n24 : zup M1 197 0 0 197 24 = M 0 13 := by rw [zup_j (by omega), b1 197 24 (by omega) (by unfold zFC; omega)]; exact f2
      have hBo : ∀ x y, ¬ (x = 202 ∨ (x = 197 ∧ y = 24)) → B x y = zup M1 197 0 0 x y := by rw [hB]; exact (mSnap_ok (by rw [n24]; exact f0) (by rw [n24]; exact f1)).1
      have hB1 : ∀ x y, x = 199 → B x y = M x y := fun x y hx => by
        subst hx
        rw [hBo _ _ (by omega), zup_a (by omega), b1 _ _ (by omega) (by unfold zFC; omega)]
      have eBG : zrG B = zvG M 30 := by rw [zrG_eq (M := M) (fun y _ _ => hB1 199 y rfl)]; exact hC.1
      have eBS : zrS B = sgS (zvS M 37) := by rw [zrS_eq (M := M) (fun y _ _ _ => hB1 199 y rfl)]; exact hE.1
      have hB75 : B 199 75 = M 37 10 := by rw [hB1 _ _ rfl]; exact st
      have hrc := r_passDays (d + 1) z0 n 0 B (by rw [eBG]; exact hG) m (by rw [hB75]; exact hm) c2 (by rw [eBG, eBS]; exact okD_sg oD hE.2.1.2)
      rw [eBG, eBS, if_neg cm, tDays_sg (by rw [zvG_0 (by omega) (by omega)]; exact hV.2.1)] at hrc
      have hrr : zEm true (d + 8) 242 [(30, 197, z0), (0, n, z1)] M1 = some ((0, (m : Int), 0), rm B (B 197 40) 0 (sgS (tDays (zvG M 30) m (zvS M 37)))) := by
        have hx2 : M1 199 75 = M 37 10 := by rw [b1 _ _ (by omega) (by unfold zFC; omega)]; exact st
        have hin : (1 ≤ n ∧ n ≤ 60) := ⟨c1, c2⟩
        have hsn := r_snap (d + 6) z0 (zup M1 197 0 0) (by rw [n24]; exact f0) (by rw [n24]; exact f1)
        rw [← hB] at hsn
        simp (disch := first | assumption | exact zrm0 | exact zrm1 _ | exact zrm2 _ _ | exact zrm3 _ _ _ | exact zrm4 _ _ _ _ | omega) only [m242, ↓k_dp, ↓k_dn, k_dp, k_dn, k_dT, k_dF, k_ip, k_in, if_true, if_false, ne_eq, not_true_eq_false, not_false_eq_true, Int.reduceAdd, zup_a, zup_e, zup_j, z32_id, k_al0, k_ic, k_pI, k_il1, k_s3r, k_ifne, k_ri, k_gR, k_ild, k_ildS, k_ildW, k_icne, k_v1, k_v2r, zb0_some, zb1_some, e242_0, e242_1, e242_2, e242_5, e242_6, e242_7, e242_9, e242_12, e242_15, e242_16, e242_17, e242_18, e242_21, e242_23, e242_24, e242_27, e242_30, e242_31, e242_32, e242_33, e242_36, e242_37, e242_38, e242_41, r_isIn, if_pos hin, hx2, hsn, hrc]
      obtain ⟨p1, pV, p2, p3, p4⟩ := pair_doneBS (M2 := rm B (B 197 40) 0 (sgS (tDays (zvG M 30) m (zvS M 37)))) hC hV hE hF b1 b2 b3 b4 b5 b6 (fun x y h1 h2 => by rw [rm_o (by omega) (by omega), hB]) (by rw [rm_S]; exact zt_sg hz) rm_78 ⟨ok1.2, tDays_row (by rw [zvG_0 (by omega) (by omega)]; exact hV.2.1) hE.2.1.2⟩
      exact ⟨(m : Int), M1, _, hcc, hrr, p1, pV, p2, p3, p4⟩
  · obtain ⟨⟨q1, qV, q2, q3⟩, q4⟩ := keep M (fun _ _ _ => rfl)
    refine ⟨-1, M, zup M 197 0 0, ?_, by simp (disch := first | assumption | exact zrm0 | exact zrm1 _ | exact zrm2 _ _ | exact zrm3 _ _ _ | exact zrm4 _ _ _ _ | omega) only [m242, ↓k_dp, ↓k_dn, k_dp, k_dn, k_dT, k_dF, k_ip, k_in, if_true, if_false, ne_eq, not_true_eq_false, not_false_eq_true, Int.reduceAdd, zup_a, zup_e, zup_j, z32_id, k_al0, k_ic, k_pI, k_il1, k_s3r, k_ifne, k_ri, k_gR, k_ild, k_ildS, k_ildW, k_icne, k_v1, k_v2r, zb0_some, zb1_some, e242_0, e242_1, e242_2, e242_5, e242_6, e242_7, e242_9, e242_12, e242_15, e242_16, e242_17, e242_18, e242_21, e242_23, e242_24, e242_27, e242_30, e242_31, e242_32, e242_33, e242_36, e242_37, e242_38, e242_41, r_isIn, if_neg c1], q1, qV, q2, q3, q4⟩
    simp (disch := first | assumption | exact zrm0 | exact zrm1 _ | exact zrm2 _ _ | exact zrm3 _ _ _ | exact zrm4 _ _ _ _ | omega) only [m18, ↓k_dp, ↓k_dn, k_dp, k_dn, k_dT, k_dF, k_ip, k_in, if_true, if_false, ne_eq, not_true_eq_false, not_false_eq_true, Int.reduceAdd, zup_a, zup_e, zup_j, z32_id, k_il1, k_ic, k_iclt, k_icle, k_ri, k_al0, k_gR, k_v2, k_is2, k_is3, k_il3, k_icge, k_v2r, k_ifeq, k_inc2, k_inc3, k_goto, k_il2, k_ifle, k_v1, zb0_some, zb1_some, e18_0, e18_1, e18_2, e18_5, e18_6, e18_8, e18_11, e18_12, e18_13, e18_14, e18_17, e18_18, e18_21, e18_24, e18_25, e18_26, e18_27, e18_28, e18_29, e18_30, e18_33, e18_34, e18_37, e18_38, e18_41, e18_44, e18_47, e18_50, e18_53, e18_56, e18_57, e18_60, e18_61, e18_64, e18_65]
    all_goals (split <;> rfl)
