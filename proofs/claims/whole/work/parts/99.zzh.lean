/-! the pair valley -/
theorem vl_okG {Q R : zM} (v : vlP Q R) : okG (zvG Q 4) := by
  have k0 := v.k0
  have k1 := v.k1
  have k2 := v.k2
  have pr := v.pr
  have wg := v.wg
  have ch := v.ch
  unfold okG
  simp (disch := omega) only [zvG_0]
  refine ⟨k0.2, k1.2, k2.2, ch.2, pr.2, wg.2, fun k p0 p1 => ?_, fun k p0 p1 => ?_, fun k p0 p1 => ?_⟩
  · rw [zvG_4 p0 (by omega) p1]
    exact (v.hm k p0 p1).2
  · rw [zvG_5 p0 p1]
    exact (v.gr k p0 p1).2
  · rw [zvG_6 p0 p1]
    exact (v.ec k p0 p1).2
theorem vl_okT {Q R : zM} (v : vlP Q R) : okT (zvS Q 11) (zvG Q 4) ∧ sPut (zvS Q 11) (zvG Q 4) = false := by
  obtain ⟨⟨s1, s2, s3⟩, st⟩ := v.st
  have k1 := v.k1
  have k2 := v.k2
  refine ⟨⟨?_, ?_⟩, ?_⟩
  · unfold okS
    simp (disch := omega) only [zvS_0]
    rw [s1, s2, s3]
    refine ⟨by omega, by omega, by omega, fun k p0 p1 => ?_, fun k p0 p1 => ?_, fun k p0 p1 => ?_, fun k p0 p1 => ?_, fun k p0 p1 => ?_, fun k p0 p1 => ?_, fun k p0 p1 => ?_, fun k p0 p1 => ?_⟩
    · rw [zvS_1 p0 p1]
      have := v.ir k p0 p1
      exact ⟨this.2.1, this.2.2.1⟩
    · rw [zvS_2 p0 p1]
      have : 0 ≤ Q 13 k ∧ Q 13 k ≤ 99 := ⟨(v.co k p0 p1).2.1, (v.co k p0 p1).2.2.1⟩
      show 0 ≤ Q 13 k ∧ Q 13 k ≤ 999
      omega
    · rw [zvS_3 p0 p1]
      exact (v.lf k p0 p1).2
    · rw [zvS_4 p0 p1]
      exact (v.rt k p0 p1).2
    · rw [zvS_5 p0 p1]
      have : Q 16 k = 0 := (st k p0 p1).1
      show 0 ≤ Q 16 k ∧ Q 16 k ≤ 2
      omega
    · rw [zvS_6 p0 p1]
      have : Q 17 k = -1 := (st k p0 p1).2.1
      show -1 ≤ Q 17 k ∧ Q 17 k ≤ 0
      omega
    · rw [zvS_7 p0 p1]
      have : Q 18 k = -1 := (st k p0 p1).2.2
      show -1 ≤ Q 18 k ∧ Q 18 k ≤ 1000
      omega
    · rw [zvS_8 p0 p1]
      exact (v.sd k p0 p1).2
  · unfold okH
    rw [zvG_0 (by omega) (by omega)]
    refine ⟨fun k p0 p1 => ?_, fun k p0 p1 h => ?_⟩
    · rw [zvS_1 (by omega) p1, zvS_2 (by omega) p1]
      exact ⟨(v.ir k (by omega) p1).2.2.2 p0, (v.co k (by omega) p1).2.2.2 p0⟩
    · rw [zvS_5 p0 p1] at h
      exact absurd (st k p0 p1).1 h
  · unfold sPut
    rw [zvG_0 (by omega) (by omega)]
    refine zany_f _ _ (fun k p0 p1 => ?_)
    rw [zvS_5 p0 (by omega)]
    have : Q (11 + 5) k = 0 := (st k p0 (by omega)).1
    rw [this]
    rfl
theorem vl_relX {A' B' M2 : zM} (h : vlN A' B') (hA : ∀ x y, 30 ≤ x → x ≤ 46 → M2 x y = A' x y) (hB : ∀ x y, x = 199 ∨ x = 204 → M2 x y = B' x y) : relX M2 30 37 46 (M2 199) (M2 204) := by
  obtain ⟨-, -, h5, Q, R, v, q1, q2, r1, r2, r3, r4, r5, r6⟩ := h
  have k0 := v.k0
  have k1 := v.k1
  have k2 := v.k2
  have eG : zvG M2 30 = zvG Q 4 := by
    rw [← zvG_cp (M := Q) (a := 30) (b := 4) (by omega) (by omega)]
    exact zvG_eq (fun x y h1 h2 => by rw [hA x y h1 (by omega)]; exact q1 x y h1 (by omega))
  have eS : zvS M2 37 = zvS Q 11 := by
    have e1 : zvS M2 37 = zvS (cpS (cpV Q 30 4) 37 11) 37 := zvS_eq (fun x y h1 h2 => by rw [hA x y (by omega) (by omega)]; exact q2 x y h1 (by omega))
    rw [e1, zvS_cp (by omega) (by omega)]
    exact zvS_eq (fun x y h1 h2 => cpV_o (by omega))
  have R75 : ∀ k, 0 ≤ k → k < 75 → M2 199 k = R 200 k := fun k k0 k1 => by rw [hB _ _ (by omega)]; exact r1 k k0 k1
  have okt := vl_okT v
  obtain ⟨v1, v2, v3, v4, v5, v6⟩ := cpV_n (M := Q) (a := 30) (b := 4) (by omega) (by omega)
  have m30 : ∀ x y, 30 ≤ x → x ≤ 36 → M2 x y = cpV Q 30 4 x y := fun x y h1 h2 => by rw [hA x y h1 (by omega)]; exact q1 x y h1 h2
  refine ⟨⟨?_, by rw [eG]; exact vl_okG v⟩, ⟨?_, by rw [eS, eG]; exact okt.1, ?_⟩, ⟨fun k p0 p1 => ?_, fun k p0 p1 => ?_, fun k p0 p1 => ?_⟩, Or.inl ⟨?_, ?_⟩⟩
  · rw [eG]
    funext i y
    unfold zRG zvG
    rw [R75 1 (by omega) (by omega), ← k1.1]
    by_cases hd : gdom (Q 4 7) i y
    · rw [zif_t hd, zif_t hd]
      have hc : (i = 0 ∧ (y = 6 ∨ y = 7 ∨ y = 8 ∨ y = 9 ∨ y = 10 ∨ y = 11)) ∨ (i = 4 ∧ 0 ≤ y ∧ y < 10 ∧ y < Q 4 7) ∨ (i = 5 ∧ 0 ≤ y ∧ y < 25) ∨ (i = 6 ∧ 0 ≤ y ∧ y < 2) := by unfold gdom at hd; omega
      have hb := gix_bd hd
      rw [R75 _ hb.1 hb.2]
      rcases hc with ⟨rfl, rfl | rfl | rfl | rfl | rfl | rfl⟩ | ⟨rfl, h1, h2, h3⟩ | ⟨rfl, h1, h2⟩ | ⟨rfl, h1, h2⟩
      · exact k0.1.symm
      · exact k1.1.symm
      · exact k2.1.symm
      · exact v.ch.1.symm
      · exact v.pr.1.symm
      · exact v.wg.1.symm
      · exact (v.hm y h1 h3).1.symm
      · exact (v.gr y h1 h2).1.symm
      · exact (v.ec y h1 h2).1.symm
    · rw [zif_f hd, zif_f hd]
  · rw [eS]
    funext i y
    unfold zRS zvS
    by_cases hd : sdom i y
    · rw [zif_t hd, zif_t hd]
      have hc : (i = 0 ∧ (y = 8 ∨ y = 9 ∨ y = 10)) ∨ (i = 1 ∧ 0 ≤ y ∧ y < 10) ∨ (i = 2 ∧ 0 ≤ y ∧ y < 10) ∨ (i = 3 ∧ 0 ≤ y ∧ y < 5) ∨ (i = 4 ∧ 0 ≤ y ∧ y < 5) ∨ (i = 5 ∧ 0 ≤ y ∧ y < 5) ∨ (i = 6 ∧ 0 ≤ y ∧ y < 5) ∨ (i = 7 ∧ 0 ≤ y ∧ y < 5) ∨ (i = 8 ∧ 0 ≤ y ∧ y < 2) := by unfold sdom at hd; omega
      obtain ⟨⟨s1, s2, s3⟩, st⟩ := v.st
      rw [hB _ _ (by omega)]
      rcases hc with ⟨rfl, rfl | rfl | rfl⟩ | ⟨rfl, h1, h2⟩ | ⟨rfl, h1, h2⟩ | ⟨rfl, h1, h2⟩ | ⟨rfl, h1, h2⟩ | ⟨rfl, h1, h2⟩ | ⟨rfl, h1, h2⟩ | ⟨rfl, h1, h2⟩ | ⟨rfl, h1, h2⟩
      · exact (r6 77 (by omega)).trans s1.symm
      · exact (r6 76 (by omega)).trans s2.symm
      · exact (r6 75 (by omega)).trans s3.symm
      · exact (r4 y h1 h2).1.trans (v.ir y h1 h2).1.symm
      · exact (r4 y h1 h2).2.trans (v.co y h1 h2).1.symm
      · exact (r5 y h1 h2).1.trans (v.lf y h1 h2).1.symm
      · exact (r5 y h1 h2).2.1.trans (v.rt y h1 h2).1.symm
      · exact (r6 (111 + y) (by omega)).trans (st y h1 h2).1.symm
      · exact (r5 y h1 h2).2.2.1.trans (st y h1 h2).2.1.symm
      · exact (r5 y h1 h2).2.2.2.trans (st y h1 h2).2.2.symm
      · exact (r3 y h1 h2).trans (v.sd y h1 h2).1.symm
    · rw [zif_f hd, zif_f hd]
  · rw [eS, eG, okt.2, hB _ _ (by omega), r6 78 (by omega)]
    rfl
  · rw [m30 _ _ (by omega) (by omega), v1] at p1
    rw [m30 _ _ (by omega) (by omega), v4 k p0 (by omega), hB _ _ (by omega), r2 k p0 (by omega)]
    have := v.n1 k p0 p1
    rw [Int.zero_add] at this
    exact this
  · rw [m30 _ _ (by omega) (by omega), v2] at p1
    rw [m30 _ _ (by omega) (by omega), v5 k p0 (by omega), hB _ _ (by omega), r2 _ (by omega) (by omega)]
    exact v.n2 k p0 p1
  · rw [m30 _ _ (by omega) (by omega), v3] at p1
    rw [m30 _ _ (by omega) (by omega), v6 k p0 (by omega), hB _ _ (by omega), r2 _ (by omega) (by omega)]
    exact v.n3 k p0 p1
  · rw [hA _ _ (by omega) (by omega)]; exact h5
  · rw [hB _ _ (by omega)]; exact r6 126 (by omega)
theorem relF_fr {M M' : zM} (h : relF M) (a : ∀ x y, (x = 0 ∧ y = 13) ∨ (x = 197 ∧ y = 24) ∨ x = 77 ∨ (81 ≤ x ∧ x ≤ 152) ∨ x = 202 ∨ (30 ≤ x ∧ x ≤ 36) → M' x y = M x y) : relF M' := by
  obtain ⟨h1, h2, h3, h4⟩ := h
  unfold relF
  rw [a 0 13 (by omega), a 197 24 (by omega)]
  have r77 : M' 77 = M 77 := funext fun i => a _ _ (by omega)
  have r202 : M' 202 = M 202 := funext fun i => a _ _ (by omega)
  refine ⟨h1, h2, ?_, fun i i0 i1 => ?_⟩
  · unfold okP at h3 ⊢
    rw [r77]
    exact h3
  · obtain ⟨g1, g2, g3⟩ := h4 i i0 i1
    have hp := h3.1 i i0 (by omega)
    have e1 : zvS M' (M 77 i) = zvS M (M 77 i) := zvS_eq (fun x y z1 z2 => a x y (by omega))
    have e2 : zvG M' 30 = zvG M 30 := zvG_eq (fun x y z1 z2 => a x y (by omega))
    have e3 : zsS M' (51 * i) = zsS M (51 * i) := by unfold zsS; rw [r202]
    rw [r77, r202, e1, e2, e3]
    exact ⟨g1, g2, g3⟩
theorem relH_fr {M M' : zM} (h : relH M) (a : ∀ x y, (x = 51 ∧ y ≠ 0) ∨ x = 52 ∨ x = 53 ∨ x = 210 ∨ x = 212 ∨ x = 217 ∨ (x = 197 ∧ (y = 25 ∨ y = 26 ∨ y = 29 ∨ y = 33 ∨ y = 36 ∨ y = 37 ∨ y = 44)) → M' x y = M x y) (e : M' 197 10 = M' 51 0) : relH M' := by
  obtain ⟨-, h⟩ := h
  refine ⟨e, ?_⟩
  have r52 : M' 52 = M 52 := funext fun i => a _ _ (by omega)
  have r53 : M' 53 = M 53 := funext fun i => a _ _ (by omega)
  have r210 : M' 210 = M 210 := funext fun i => a _ _ (by omega)
  have r212 : M' 212 = M 212 := funext fun i => a _ _ (by omega)
  have r217 : M' 217 = M 217 := funext fun i => a _ _ (by omega)
  have r51 : ∀ y, y ≠ 0 → M' 51 y = M 51 y := fun y h => a _ _ (by omega)
  rw [r52, r53, r210, r212, r217, r51 1 (by omega), r51 2 (by omega), r51 4 (by omega), r51 6 (by omega), r51 7 (by omega), r51 8 (by omega), r51 10 (by omega), r51 11 (by omega), r51 12 (by omega), r51 13 (by omega), r51 14 (by omega), a 197 25 (by omega), a 197 26 (by omega), a 197 29 (by omega), a 197 33 (by omega), a 197 36 (by omega), a 197 37 (by omega), a 197 44 (by omega)]
  exact h
def zPairV (M : zM) (cc : zO) (rc : zM → zO) : Prop := ∃ v M1 M2, cc = some ((0, v, 0), M1) ∧ rc M1 = some ((0, v, 0), M2) ∧ relA M2 ∧ relX M2 30 37 46 (M2 199) (M2 204) ∧ relF M2 ∧ relH M2 ∧ ∀ x y, ¬ (zVc x y ∨ zVr x y) → M2 x y = M x y
theorem pair_valley (d : Nat) (x0 z0 : Int) (M : zM) (hA : relA M) (hX : relX M 30 37 46 (M 199) (M 204)) (hF : relF M) (hH : relH M) : zPairV M (zEm true (d + 16) 3 [(29, 0, x0)] M) (fun M1 => zEm true (d + 16) 203 [(30, 197, z0)] M1) := by
  have hA0 : relTT M M := hA
  obtain ⟨A, -, r, a1, -, a2, -⟩ := l_valley hA0 (d + 16) (d + 16) (by omega) (by omega) x0 z0
  have hA1 : relTT M A := by
    refine ⟨hA.1, ?_, fun i i0 i1 => ?_⟩
    · rw [a2 _ _ (by unfold zVc; omega)]; exact hA.2.1
    · rw [a2 _ _ (by unfold zVc; omega)]; exact hA.2.2 i i0 i1
  obtain ⟨A', B, r', b1, b2, b3, b4, b5, b6, b7, b8⟩ := l_valley hA1 (d + 16) (d + 16) (by omega) (by omega) x0 z0
  have e := a1.symm.trans b1
  injection e with e
  injection e with e1 e2
  injection e1 with _ e1
  injection e1 with e1 _
  subst e1
  subst e2
  have c12 : ∀ x y, (zVc x y → ¬ zVr x y) := fun x y h => by unfold zVc at h; unfold zVr; omega
  refine ⟨r, A, B, a1, b2, ⟨?_, ?_, fun i i0 i1 => ?_⟩, ?_, ?_, ?_, fun x y h => ?_⟩
  · rw [b4 2 1 (by unfold zVr; omega), b5]; omega
  · rw [b4 2 1 (by unfold zVr; omega), b5, b6]
  · rw [b4 198 i (by unfold zVr; omega), b4 3 i (by unfold zVr; omega), a2 198 i (by unfold zVc; omega), a2 3 i (by unfold zVc; omega)]
    exact hA.2.2 i i0 i1
  · rcases b8 with b8 | ⟨b8, b9⟩
    · exact vl_relX b8 (fun x y h1 h2 => b4 x y (by unfold zVr; omega)) (fun _ _ _ => rfl)
    · have f : ∀ x y, (30 ≤ x ∧ x ≤ 50) → B x y = M x y := fun x y h => by
        rw [b4 x y (by unfold zVr; omega)]
        by_cases c : x ≤ 46
        · exact b8 x y (by omega)
        · exact a2 x y (by unfold zVc; omega)
      have g : ∀ x y, x = 199 ∨ x = 204 → B x y = M x y := fun x y h => by
        rw [b9 x y (by omega)]
        exact a2 x y (by unfold zVc; omega)
      exact relX_fr hX (fun x y h1 h2 => f x y (by omega)) (fun x y h1 h2 => f x y (by omega)) (fun x y h1 h2 => f x y (by omega)) (fun j _ _ => g _ _ (by omega)) (fun j _ _ => g _ _ (by omega))
  · rcases b8 with b8 | ⟨b8, b9⟩
    · obtain ⟨n1, n2, -⟩ := b8
      have e13 : B 0 13 = 0 := by rw [b4 _ _ (by unfold zVr; omega)]; exact n1
      have r77 : B 77 = M 77 := funext fun i => by rw [b4 _ _ (by unfold zVr; omega)]; exact a2 _ _ (by unfold zVc; omega)
      refine ⟨by omega, by omega, ?_, fun i i0 i1 => by omega⟩
      have := hF.2.2.1
      unfold okP at this ⊢
      rw [r77]
      exact this
    · refine relF_fr hF (fun x y h => ?_)
      by_cases c : x = 197
      · rw [b9 x y (by omega)]
        exact a2 x y (by unfold zVc; omega)
      · rw [b4 x y (by unfold zVr; omega)]
        by_cases c2 : x = 0 ∨ (30 ≤ x ∧ x ≤ 36)
        · exact b8 x y (by omega)
        · exact a2 x y (by unfold zVc; omega)
  · refine relH_fr hH (fun x y h => ?_) ?_
    · rw [b4 x y (by unfold zVr; omega)]
      exact a2 x y (by unfold zVc; omega)
    · rw [b4 51 0 (by unfold zVr; omega)]
      exact b7.symm
  · rw [b4 x y (fun z => h (Or.inr z))]
    exact a2 x y (fun z => h (Or.inl z))
