/-! a copy of a row; the place of a constant -/
theorem zs_copy {p : Program} {l : Launch} {e : Env} {R : Room} {s : State} {m : MethodId} {args : Array Value} {below : List Frame} {meth : Method} {c : Code} {Q : State → Prop} {K : zK} {ph : Bool} {c0 s0 : Int} {gs : zG} {own nm : String} {cc : ByteArray} {pc : Nat} {L st : List zV} {M : zM} {i : Nat} {st' : List zV} {M' : zM} (hC : zCtx K own nm cc p s m args meth c) (hRm : 1 ≤ R.frames ∧ 60 ≤ R.locals) (hdg : decode cc pc = .ok (.invokestatic i, 3))
    (hw : Cond.methodLink own i arraycopyName ∈ zwl ∧ Cond.native arraycopyName ∈ zwl ∧ Cond.static arraycopyName ∈ zwl ∧ Cond.initialized "java/lang/System" ∈ zwl)
    (hs : zF6_c st M = some (st', M')) (hk : zGo p l e R s m args below meth c Q K ph c0 s0 gs (pc + 3) L st' M') : zGo p l e R s m args below meth c Q K ph c0 s0 gs pc L st M := by
  unfold zF6_c at hs
  split at hs
  · rename_i n x0 dp x1 u b k sp x2 t a nn st
    split at hs
    · rename_i hz
      obtain ⟨hz, hsp, hdp, hn, hle1, hle2⟩ := hz
      intro ls rst H locs b0 b1 b2 b3 b4
      obtain ⟨r1, rst, rfl, hv1, b2a⟩ := zVRs_cons b2
      obtain ⟨r2, rst, rfl, hv2, b2b⟩ := zVRs_cons b2a
      obtain ⟨r3, rst, rfl, hv3, b2c⟩ := zVRs_cons b2b
      obtain ⟨r4, rst, rfl, hv4, b2d⟩ := zVRs_cons b2c
      obtain ⟨r5, rst, rfl, hv5, b2e⟩ := zVRs_cons b2d
      obtain ⟨xn, rfl, hxn⟩ := zVR_i hv1
      obtain ⟨xd, rfl, hxd⟩ := zVR_i hv2
      obtain ⟨xs, rfl, hxs⟩ := zVR_i hv4
      subst hxn; subst hxd; subst hxs
      have h8 := zroom_8 b2e hz
      have h52 := znfw
      have c1 := zclamp hsp
      have c2 := zclamp hdp
      have c3 := zclamp hn
      have n1 : ¬ xs < 0 := by rw [Int32.lt_iff_toInt_lt]; show ¬ xs.toInt < 0; omega
      have n2 : ¬ xd < 0 := by rw [Int32.lt_iff_toInt_lt]; show ¬ xd.toInt < 0; omega
      have n3 : ¬ xn < 0 := by rw [Int32.lt_iff_toInt_lt]; show ¬ xn.toInt < 0; omega
      have fin : ∀ (kb : Nat), b = kb → st' = st → (∀ x : Int, x ≠ kb → ∀ y, M' x y = M x y) → ∀ (q : Nat) (ws : va_W) (w' : Nat × va_E) (H1 : Heap) (locs1 : List Loc), zRel K ph gs M s ws → gs[kb]? = some (q, u, k) → zCell K ph gs M' s kb (q, u, k) w' → va_P (zD K) zcls (ws.set kb w') H1 → va_D (zA K) (ws.set kb w') → va_S (zA K) s.heap H1 locs1 →
          W p l e R s m args below meth c H1 locs1 (M (-1) 1 - c0).toNat (M (-1) 2 - s0).toNat Q (F0 m (pc + 3) ls rst) := by
        intro kb ek e1 hrow q ws w' H1 locs1 hR hg hcell hP1 hD1 hS1
        subst ek; subst e1
        have := hk ls rst H1 locs1 b0 b1 b2e ⟨by rw [hrow (-1) (by omega)]; exact b3.1, fun i hi => by rw [hrow (-2) (by omega)]; exact b3.2.1 i hi, _, hP1, hD1, zRel_set hR hg hrow hcell⟩ hS1
        rw [hrow (-1) (by omega), hrow (-1) (by omega)] at this
        exact this
      split at hs
      · rename_i ht
        obtain ⟨hut, ht, hab⟩ := ht
        obtain rfl : t = u := hut.symm
        cases hs
        obtain ⟨ka, qa, rfl, hga, rfl⟩ := zVR_cell hv5 (by omega) (by omega) (by omega)
        obtain ⟨kb, qb, rfl, hgb, rfl⟩ := zVR_cell hv3 (by omega) (by omega) (by omega)
        obtain ⟨z1, z2, ws, hP, hD, hR⟩ := id b3
        obtain ⟨Ea, hwa, hca⟩ := zRel_cell hR hga
        obtain ⟨Eb, hwb, hcb⟩ := zRel_cell hR hgb
        have row : ∀ j : Nat, zcpy M ka xs.toInt kb xd.toInt xn.toInt kb j = if xd.toNatClampNeg ≤ j ∧ j < xd.toNatClampNeg + xn.toNatClampNeg then M ka ((xs.toNatClampNeg + (j - xd.toNatClampNeg) : Nat) : Int) else M kb j := by
          intro j
          unfold zcpy
          by_cases hj : xd.toNatClampNeg ≤ j ∧ j < xd.toNatClampNeg + xn.toNatClampNeg
          · rw [if_pos hj, if_pos ⟨rfl, by omega, by omega, by omega⟩]
            congr 1
            omega
          · rw [if_neg hj, if_neg (by omega)]
        have K1 : ∀ (cA cB : ClassId) (ty : FieldType), zArr s cA ty → zArr s cB ty → va_K (zD K) zcls [(cA, ty), (cB, ty)] s := fun cA cB ty h1 h2 => ⟨hC.2.2.2.2.1.1, fun k q hk => by
          rcases k with _ | _ | k
          · cases hk; exact h1
          · cases hk; exact h2
          · simp at hk⟩
        by_cases e11 : t = 11
        · subst e11
          obtain ⟨cA, f, rfl, hA, hf⟩ := zCell_l hca
          obtain ⟨cB, g, rfl, hB, hg⟩ := zCell_l hcb
          refine va_copyl (ty := .long) hC.1 hC.2.1 b0.symm hC.2.2.1 (hC.2.2.2.1 _ hw.1) (hC.2.2.2.1 _ hw.2.1) (hC.2.2.2.1 _ hw.2.2.1) (hC.2.2.2.1 _ hw.2.2.2) (K1 cA cB .long hA hB) hP hD b4 ka kb 0 1 hwa hwb rfl rfl rfl n1 n2 n3 (by omega) (by omega) (fun _ _ => rfl) hRm.1 (by omega) hdg (fun H1 locs1 g1 g2 g3 => ?_)
          refine fin kb rfl rfl (fun x hx y => zcpy_row _ _ _ _ _ hx y) qb ws _ H1 locs1 hR hgb (zCell_mkl hB fun j hj => ?_) g1 g2 g3
          rw [row j]
          unfold va_cpy
          split
          · exact hf _ (by omega)
          · exact hg j hj
        · have ht3 : t = 10 ∨ t = 12 ∨ t = 13 := by omega
          obtain ⟨cA, f, rfl, hA, hf, hfb⟩ := zCell_i hca ht3
          obtain ⟨cB, g, rfl, hB, hg, hgb2⟩ := zCell_i hcb ht3
          have hfit : ∀ i, i < xn.toNatClampNeg → fits (if t = 10 then .int else if t = 12 then .boolean else .byte) (.int (f (xs.toNatClampNeg + i))) = true := by
            intro i hi
            rcases (show t = 10 ∨ t = 13 by omega) with rfl | rfl
            · rfl
            · have h1 := hf (xs.toNatClampNeg + i) (by omega)
              have h2 := hfb rfl (xs.toNatClampNeg + i) (by omega)
              rw [← h1] at h2
              exact (znar_b h2.1 h2.2).2
          refine va_copyi (ty := if t = 10 then .int else if t = 12 then .boolean else .byte) hC.1 hC.2.1 b0.symm hC.2.2.1 (hC.2.2.2.1 _ hw.1) (hC.2.2.2.1 _ hw.2.1) (hC.2.2.2.1 _ hw.2.2.1) (hC.2.2.2.1 _ hw.2.2.2) (K1 cA cB _ hA hB) hP hD b4 ka kb 0 1 hwa hwb rfl rfl (by rcases (show t = 10 ∨ t = 13 by omega) with rfl | rfl <;> rfl) n1 n2 n3 (by omega) (by omega) hfit hRm.1 (by omega) hdg (fun H1 locs1 g1 g2 g3 => ?_)
          refine fin kb rfl rfl (fun x hx y => zcpy_row _ _ _ _ _ hx y) qb ws _ H1 locs1 hR hgb (zCell_mki ht3 hB (fun j hj => ?_) (fun e13 j hj => ?_)) g1 g2 g3
          · rw [row j]
            unfold va_cpy
            split
            · exact hf _ (by omega)
            · exact hg j hj
          · rw [row j]
            split
            · exact hfb e13 _ (by omega)
            · exact hgb2 e13 j hj
      · split at hs
        · rename_i ht
          obtain ⟨rfl, rfl⟩ := ht
          cases hs
          obtain ⟨rfl, w2, w3⟩ := zVR_stat hv5 (by omega)
          obtain ⟨kb, qb, rfl, hgb, rfl⟩ := zVR_cell hv3 (by omega) (by omega) (by omega)
          obtain ⟨z1, z2, ws, hP, hD, hR⟩ := id b3
          obtain ⟨Eb, hwb, hcb⟩ := zRel_cell hR hgb
          obtain ⟨cB, g, rfl, hB, hg, hgb2⟩ := zCell_i hcb (by omega)
          have w2 : 0 ≤ a ∧ a < 8 := by simpa [zrng] using w2
          obtain ⟨-, -, -, -, -, -, -, -, g9, -⟩ := hC.2.2.2.2.2.1
          obtain ⟨-, -, -, g3⟩ := g9.1 a.toNat (by omega)
          dsimp only at g3
          rw [show ((a.toNat : Nat) : Int) = a by omega] at g3
          have q1 := (zstl_len ⟨a.toNat, by omega⟩).1
          have q3 := zstl_30 ⟨a.toNat, by omega⟩
          have w4 : nn = ((zstr.getD a.toNat []).length : Int) := w3 (by omega)
          dsimp only at q1 q3
          have txt : ∀ j : Nat, j < zstl.getD a.toNat 0 → ((zstb.getD a.toNat []).getD j 0).toInt = zsta 9 a j := fun j hj => by
            have h9 := zstb_range ⟨a.toNat, by omega⟩ ⟨j, by omega⟩ (by dsimp only; omega)
            dsimp only at h9
            rw [show ((a.toNat : Nat) : Int) = a by omega] at h9
            exact h9
          have txr : ∀ j : Nat, j < zstl.getD a.toNat 0 → -128 ≤ zsta 9 a j ∧ zsta 9 a j < 128 := by
            have key : ∀ k : Fin 8, ∀ j : Fin 30, j.val < zstl.getD k.val 0 → -128 ≤ zsta 9 (k.val : Int) (j.val : Int) ∧ zsta 9 (k.val : Int) (j.val : Int) < 128 := by decide +kernel
            intro j hj
            have := key ⟨a.toNat, by omega⟩ ⟨j, by omega⟩ hj
            dsimp only at this
            rw [show ((a.toNat : Nat) : Int) = a by omega] at this
            exact this
          have row : ∀ j : Nat, zcpyS M a xs.toInt kb xd.toInt xn.toInt kb j = if xd.toNatClampNeg ≤ j ∧ j < xd.toNatClampNeg + xn.toNatClampNeg then zsta 9 a ((xs.toNatClampNeg + (j - xd.toNatClampNeg) : Nat) : Int) else M kb j := by
            intro j
            unfold zcpyS
            by_cases hj : xd.toNatClampNeg ≤ j ∧ j < xd.toNatClampNeg + xn.toNatClampNeg
            · rw [if_pos hj, if_pos ⟨rfl, by omega, by omega, by omega⟩]
              congr 1
              omega
            · rw [if_neg hj, if_neg (by omega)]
          refine vk_copyt (f := fun j => (zstb.getD a.toNat []).getD j 0) hC.1 hC.2.1 b0.symm hC.2.2.1 (hC.2.2.2.1 _ hw.1) (hC.2.2.2.1 _ hw.2.1) (hC.2.2.2.1 _ hw.2.2.1) (hC.2.2.2.1 _ hw.2.2.2) (zK1 hC.2.2.2.2.1 hB) hP hD b4 g3 kb 0 hwb rfl n1 n2 n3 (by omega) (by omega) (fun i hi => by
            have h1 := txt (xs.toNatClampNeg + i) (by omega)
            have h2 := txr (xs.toNatClampNeg + i) (by omega)
            rw [← h1] at h2
            exact (znar_b h2.1 h2.2).2) hRm.1 (by omega) hdg (fun H1 locs1 g1 g2 g3 => ?_)
          refine fin kb rfl rfl (fun x hx y => zcpyS_row _ _ _ _ _ hx y) qb ws _ H1 locs1 hR hgb (zCell_mki (by omega) hB (fun j hj => ?_) (fun e13 j hj => ?_)) g1 g2 g3
          · rw [row j]
            unfold va_cpy
            split
            · exact txt _ (by omega)
            · exact hg j hj
          · rw [row j]
            split
            · exact txr _ (by omega)
            · exact hgb2 e13 j hj
        · cases hs
    · cases hs
  · cases hs
