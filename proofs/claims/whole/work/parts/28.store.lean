/-! rows: writing, making -/
theorem zs_store {p : Program} {l : Launch} {e : Env} {R : Room} {s : State} {m : MethodId} {args : Array Value} {below : List Frame} {meth : Method} {c : Code} {Q : State → Prop} {K : zK} {ph : Bool} {c0 s0 : Int} {gs : zG} {own nm : String} {cc : ByteArray} {pc : Nat} {L st : List zV} {M : zM} {op : Nat} {st' : List zV} {M' : zM} (hC : zCtx K own nm cc p s m args meth c) (hdg : (op = 89 ∧ decode cc pc = .ok (.iastore, 1)) ∨ (op = 90 ∧ decode cc pc = .ok (.lastore, 1)) ∨ (op = 91 ∧ decode cc pc = .ok (.bastore, 1)) ∨ (op = 92 ∧ decode cc pc = .ok (.aastore, 1)))
    (hs : zF4_s op st M = some (st', M')) (hk : zGo p l e R s m args below meth c Q K ph c0 s0 gs (pc + 1) L st' M') : zGo p l e R s m args below meth c Q K ph c0 s0 gs pc L st M := by
  unfold zF4_s at hs
  split at hs
  · rename_i u v w i y t a n st
    split at hs
    · rename_i hin
      intro ls rst H locs b0 b1 b2 b3 b4
      obtain ⟨rx, rst, rfl, hx, b2a⟩ := zVRs_cons b2
      obtain ⟨ri, rst, rfl, hi, b2b⟩ := zVRs_cons b2a
      obtain ⟨rv, rst, rfl, hv, b2c⟩ := zVRs_cons b2b
      obtain ⟨x, rfl, hxi⟩ := zVR_i hi
      subst hxi
      have hcl := zclamp hin.1
      have fin : ∀ (k : Nat), a = k → st' = st → M' = zup M a x.toInt v → ∀ (q : Nat) (ws : va_W) (w' : Nat × va_E) (H1 : Heap) (locs1 : List Loc), zRel K ph gs M s ws → gs[k]? = some (q, t, n) → zCell K ph gs M' s k (q, t, n) w' → va_P (zD K) zcls (ws.set k w') H1 → va_D (zA K) (ws.set k w') → va_S (zA K) s.heap H1 locs1 →
          W p l e R s m args below meth c H1 locs1 (M (-1) 1 - c0).toNat (M (-1) 2 - s0).toNat Q (F0 m (pc + 1) ls rst) := by
        intro k ek e1 e2 q ws w' H1 locs1 hR hg hcell hP1 hD1 hS1
        subst ek; subst e1
        have hrow : ∀ z : Int, z ≠ k → ∀ y, M' z y = M z y := fun z hz y => by rw [e2]; exact zup_row M hz y
        have := hk ls rst H1 locs1 b0 b1 b2c ⟨by rw [hrow (-1) (by omega)]; exact b3.1, fun i hi => by rw [hrow (-2) (by omega)]; exact b3.2.1 i hi, _, hP1, hD1, zRel_set hR hg hrow hcell⟩ hS1
        rw [hrow (-1) (by omega), hrow (-1) (by omega)] at this
        exact this
      have rowv : ∀ (k : Nat) (j : Nat), a = k → zup M a x.toInt v k j = if j = x.toNatClampNeg then v else M k j := by
        intro k j ek
        subst ek
        rw [zup_at M _ _ (by omega)]
        by_cases h : j = x.toNatClampNeg
        · rw [if_pos h, if_pos (by omega)]
        · rw [if_neg h, if_neg (by omega)]
      rcases hdg with ⟨rfl, hdg⟩ | ⟨rfl, hdg⟩ | ⟨rfl, hdg⟩ | ⟨rfl, hdg⟩
      · rw [if_pos rfl] at hs
        split at hs
        · rename_i hz
          obtain ⟨rfl, rfl⟩ := hz
          cases hs
          obtain ⟨k, q, rfl, hg, rfl⟩ := zVR_cell hv (by omega) (by omega) (by omega)
          obtain ⟨z1, z2, ws, hP, hD, hR⟩ := id b3
          obtain ⟨E, hws, hcell⟩ := zRel_cell hR hg
          obtain ⟨cA, f, rfl, hA, hf, hB⟩ := zCell_i hcell (Or.inl rfl)
          obtain ⟨xv, rfl, hxv⟩ := zVR_i hx
          refine va_iast hC.1 hC.2.1 (zK1 hC.2.2.2.2.1 hA) hP hD b4 k 0 hws rfl (zin_of hin.1 (by omega)) hdg (fun H1 locs1 g1 g2 g3 => ?_)
          refine fin k rfl rfl rfl q ws _ H1 locs1 hR hg (zCell_mki (Or.inl rfl) hA (fun j hj => ?_) (fun z => absurd z (by decide))) g1 g2 g3
          rw [rowv k j rfl]
          unfold upd
          split
          · exact hxv
          · exact hf j hj
        · cases hs
      · rw [if_neg (by omega), if_pos rfl] at hs
        split at hs
        · rename_i hz
          obtain ⟨rfl, rfl⟩ := hz
          cases hs
          obtain ⟨k, q, rfl, hg, rfl⟩ := zVR_cell hv (by omega) (by omega) (by omega)
          obtain ⟨z1, z2, ws, hP, hD, hR⟩ := id b3
          obtain ⟨E, hws, hcell⟩ := zRel_cell hR hg
          obtain ⟨cA, f, rfl, hA, hf⟩ := zCell_l hcell
          obtain ⟨xv, rfl, hxv⟩ := zVR_l hx
          refine va_last hC.1 hC.2.1 (zK1 hC.2.2.2.2.1 hA) hP hD b4 k 0 hws rfl (zin_of hin.1 (by omega)) hdg (fun H1 locs1 g1 g2 g3 => ?_)
          refine fin k rfl rfl rfl q ws _ H1 locs1 hR hg (zCell_mkl hA fun j hj => ?_) g1 g2 g3
          rw [rowv k j rfl]
          unfold vp_updL
          split
          · exact hxv
          · exact hf j hj
        · cases hs
      · rw [if_neg (by omega), if_neg (by omega), if_pos rfl] at hs
        split at hs
        · rename_i hz
          obtain ⟨rfl, hz⟩ := hz
          cases hs
          obtain ⟨k, q, rfl, hg, rfl⟩ := zVR_cell hv (by omega) (by omega) (by omega)
          obtain ⟨z1, z2, ws, hP, hD, hR⟩ := id b3
          obtain ⟨E, hws, hcell⟩ := zRel_cell hR hg
          obtain ⟨xv, rfl, hxv⟩ := zVR_i hx
          rcases hz with ⟨rfl, hz⟩ | ⟨rfl, hz⟩
          · obtain ⟨cA, f, rfl, hA, hf, hB⟩ := zCell_i hcell (Or.inr (Or.inr rfl))
            refine va_bast hC.1 hC.2.1 (zK1 hC.2.2.2.2.1 hA) hP hD b4 k 0 hws rfl (zin_of hin.1 (by omega)) hdg (fun H1 locs1 g1 g2 g3 => ?_)
            refine fin k rfl rfl rfl q ws _ H1 locs1 hR hg (zCell_mki (Or.inr (Or.inr rfl)) hA (fun j hj => ?_) (fun z j hj => by rw [rowv k j rfl]; split; (· omega); (· exact hB rfl j hj))) g1 g2 g3
            rw [rowv k j rfl]
            unfold upd
            split
            · have := (znar_b (i := xv) (by omega) (by omega)).1
              unfold vp_nar
              rw [this]
              exact hxv
            · exact hf j hj
          · obtain ⟨cA, f, rfl, hA, hf, hB⟩ := zCell_i hcell (Or.inr (Or.inl rfl))
            refine va_zast hC.1 hC.2.1 (zK1 hC.2.2.2.2.1 hA) hP hD b4 k 0 hws rfl (zin_of hin.1 (by omega)) hdg (fun H1 locs1 g1 g2 g3 => ?_)
            refine fin k rfl rfl rfl q ws _ H1 locs1 hR hg (zCell_mki (Or.inr (Or.inl rfl)) hA (fun j hj => ?_) (fun z => absurd z (by decide))) g1 g2 g3
            rw [rowv k j rfl]
            unfold upd
            split
            · have := (znar_z (i := xv) (by omega)).1
              unfold vp_nar
              rw [this]
              exact hxv
            · exact hf j hj
        · cases hs
      · rw [if_neg (by omega), if_neg (by omega), if_neg (by omega)] at hs
        split at hs
        · rename_i hz
          obtain ⟨hz, hpos⟩ := hz
          cases hs
          obtain ⟨k, q, rfl, hg, rfl⟩ := zVR_cell hv (by omega) (by omega) (by omega)
          obtain ⟨z1, z2, ws, hP, hD, hR⟩ := id b3
          obtain ⟨E, hws, hcell⟩ := zRel_cell hR hg
          obtain ⟨cA, f, rfl, hA, hf⟩ := zCell_q hcell (by omega)
          obtain ⟨k2, q2, rfl, hg2, rfl⟩ := zVR_cell hx (by omega) (by omega) (by omega)
          obtain ⟨E2, hws2, hcell2⟩ := zRel_cell hR hg2
          rcases hz with ⟨rfl, rfl⟩ | ⟨rfl, rfl⟩
          · obtain ⟨hn0, r2, fs2, hr2, rfl, -⟩ := zCell_obj (c := 6) hcell2 (by omega)
            cases hr2
            refine va_astq (r := (zR6, zT6, 11)) hC.1 hC.2.1 (zK1 hC.2.2.2.2.1 hA) hP hD b4 k 0 k2 6 hws rfl hws2 rfl (zin_of hin.1 (by omega)) hdg (fun H1 locs1 g1 g2 g3 => ?_)
            refine fin k rfl rfl rfl q ws _ H1 locs1 hR hg (zCell_mkq (Or.inl rfl) hA fun j hj => ?_) g1 g2 g3
            rw [rowv k j rfl]
            unfold va_up
            split
            · intro _
              exact ⟨q2, k2, rfl, by rw [← hn0]; exact hg2, rfl⟩
            · exact hf j hj
          · obtain ⟨hn0, r2, fs2, hr2, rfl, -⟩ := zCell_obj (c := 1) hcell2 (by omega)
            cases hr2
            refine va_astq (r := (zR1, zT1, 4)) hC.1 hC.2.1 (zK1 hC.2.2.2.2.1 hA) hP hD b4 k 0 k2 1 hws rfl hws2 rfl (zin_of hin.1 (by omega)) hdg (fun H1 locs1 g1 g2 g3 => ?_)
            refine fin k rfl rfl rfl q ws _ H1 locs1 hR hg (zCell_mkq (Or.inr rfl) hA fun j hj => ?_) g1 g2 g3
            rw [rowv k j rfl]
            unfold va_up
            split
            · intro _
              exact ⟨q2, k2, rfl, by rw [← hn0]; exact hg2, rfl⟩
            · exact hf j hj
        · cases hs
    · cases hs
  · cases hs
theorem znew_m0 (M : zM) (n : Int) : znew M n (-1) 0 = M (-1) 0 + 1 := by simp [znew]
theorem znew_m1 (M : zM) (n : Int) : znew M n (-1) 1 = M (-1) 1 + 1 := by simp [znew]
theorem znew_m2 (M : zM) (n : Int) : znew M n (-1) 2 = M (-1) 2 + n := by simp [znew]
theorem znew_row (M : zM) (n : Int) {x : Int} (h1 : x ≠ -1) (h2 : x ≠ M (-1) 0) (y : Int) : znew M n x y = M x y := by simp [znew, h1, h2]
theorem znew_at (M : zM) (n : Int) (h1 : M (-1) 0 ≠ -1) (y : Int) : znew M n (M (-1) 0) y = 0 := by simp [znew, h1]
/-- a new cell in the relation -/
theorem zRep_new {K : zK} {ph : Bool} {gs : zG} {M : zM} {s : State} {H1 : Heap} {ws : va_W} {q : Nat} {t n k : Int} {w : Nat × va_E} (z1 : M (-1) 0 = gs.length) (z2 : ∀ i : Nat, i < zL K → M (-2) i = (zxs K i).toInt) (hR : zRel K ph gs M s ws) (hn : 0 ≤ n ∧ n ≤ 4096)
    (hc : zCell K ph (gs ++ [(q, t, n)]) (znew M k) s gs.length (q, t, n) w) (hP : va_P (zD K) zcls (ws ++ [w]) H1) (hD : va_D (zA K) (ws ++ [w])) : zRep K ph (gs ++ [(q, t, n)]) (znew M k) s H1 := by
  refine ⟨by rw [znew_m0, z1]; simp, fun i hi => by rw [znew_row M k (by omega) (by omega)]; exact z2 i hi, _, hP, hD, by rw [List.length_append, List.length_append, hR.1]; rfl, fun i g hg => ?_, fun i g v hg hv => ?_⟩
  · by_cases hl : i < gs.length
    · rw [List.getElem?_append_left hl] at hg
      exact hR.2.1 i g hg
    · rw [List.getElem?_append_right (by omega)] at hg
      have : i - gs.length < 1 := (List.getElem?_eq_some_iff.mp hg).1
      rw [show i - gs.length = 0 by omega] at hg
      cases hg
      exact hn
  · by_cases hl : i < gs.length
    · rw [List.getElem?_append_left hl] at hg
      rw [List.getElem?_append_left (by rw [hR.1]; exact hl)] at hv
      exact zCell_congr (hR.2.2 i g v hg hv) (fun y => znew_row M k (by omega) (by omega) y) (fun _ _ z => z)
    · rw [List.getElem?_append_right (by omega)] at hg
      have : i - gs.length < 1 := (List.getElem?_eq_some_iff.mp hg).1
      rw [show i - gs.length = 0 by omega] at hg
      cases hg
      rw [List.getElem?_append_right (by rw [hR.1]; omega), show i - ws.length = 0 by rw [hR.1]; omega] at hv
      cases hv
      rw [show i = gs.length by omega]
      exact hc
theorem zs_newarray {p : Program} {l : Launch} {e : Env} {R : Room} {s : State} {m : MethodId} {args : Array Value} {below : List Frame} {meth : Method} {c : Code} {Q : State → Prop} {K : zK} {ph : Bool} {c0 s0 : Int} {gs : zG} {own nm : String} {cc : ByteArray} {pc : Nat} {L st : List zV} {M : zM} {at' : ArrayType} {u : Int} {st' : List zV} {M' : zM} (hC : zCtx K own nm cc p s m args meth c) (hdg : decode cc pc = .ok (.newarray at', 2)) (hu : (at' = .int ∧ u = 10) ∨ (at' = .long ∧ u = 11) ∨ (at' = .boolean ∧ u = 12) ∨ (at' = .byte ∧ u = 13)) (hw : Cond.arrayClass (newarray.typeOf at') ∈ zwl)
    (hcs : c0 ≤ M (-1) 1 ∧ s0 ≤ M (-1) 2) (hlim : (M' (-1) 1 - c0).toNat ≤ R.cells ∧ (M' (-1) 2 - s0).toNat ≤ R.slots)
    (hs : zF4_a [u] st M = some (st', M')) (hk : ∀ gx, zGo p l e R s m args below meth c Q K ph c0 s0 (gs ++ gx) (pc + 2) L st' M') : zGo p l e R s m args below meth c Q K ph c0 s0 gs pc L st M := by
  unfold zF4_a at hs
  split at hs
  · rename_i n y st
    split at hs
    · rename_i hn
      cases hs
      intro ls rst H locs b0 b1 b2 b3 b4
      obtain ⟨ri, rst, rfl, hi, b2a⟩ := zVRs_cons b2
      obtain ⟨x, rfl, hx⟩ := zVR_i hi
      subst hx
      have hcl := zclamp hn.1
      rw [znew_m1, znew_m2] at hlim
      obtain ⟨z1, z2, ws, hP, hD, hR⟩ := id b3
      have hA : ∀ q, s.heap.size ≤ q → zA K q := fun q h => Nat.le_trans hC.2.2.2.2.2.2.1 h
      have e1 : (M (-1) 1 + 1 - c0).toNat = (M (-1) 1 - c0).toNat + 1 := by omega
      have e2 : (M (-1) 2 + x.toInt - s0).toNat = (M (-1) 2 - s0).toNat + x.toNatClampNeg := by omega
      rw [e1, e2] at hlim
      have fin : ∀ (q : Nat) (w : Nat × va_E) (H1 : Heap), zCell K ph (gs ++ [(q, u, x.toInt)]) (znew M x.toInt) s gs.length (q, u, x.toInt) w → va_P (zD K) zcls (ws ++ [w]) H1 → va_D (zA K) (ws ++ [w]) → va_S (zA K) s.heap H1 locs →
          W p l e R s m args below meth c H1 locs ((M (-1) 1 - c0).toNat + 1) ((M (-1) 2 - s0).toNat + x.toNatClampNeg) Q (F0 m (pc + 2) ls (.ref q :: rst)) := by
        intro q w H1 hc hP1 hD1 hS1
        have := hk [(q, u, x.toInt)] ls (.ref q :: rst) H1 locs b0 ⟨b1.1, b1.2.1, fun i v hi hv => (b1.2.2 i v hi hv).elim fun rv h => ⟨rv, zVR_app h.1, h.2⟩⟩ ⟨by
          show zVR K _ (u, M (-1) 0, x.toInt) _
          rw [z1]
          exact zVR_mkcell (by omega) (by omega) (by omega) (by rw [List.getElem?_append_right (by omega), Nat.sub_self]; rfl), zVRs_app b2a⟩ (zRep_new z1 z2 hR ⟨hn.1, hn.2⟩ hc hP1 hD1) hS1
        rw [znew_m1, znew_m2, e1, e2] at this
        exact this
      have row0 : ∀ j : Nat, znew M x.toInt ((gs.length : Nat) : Int) j = 0 := fun j => by
        have := znew_at M x.toInt (by omega) (j : Int)
        rw [z1] at this
        exact this
      have hb : x.toNatClampNeg * 8 ≤ 536870912 := by omega
      have e9 : x.toInt.toNat = x.toNatClampNeg := rfl
      rcases hu with ⟨rfl, rfl⟩ | ⟨rfl, rfl⟩ | ⟨rfl, rfl⟩ | ⟨rfl, rfl⟩
      · refine va_newa (atype := .int) (ty := .int) (tys := []) (a0 := (x.toNatClampNeg, .inl (fun _ => 0))) hC.1 hC.2.1 (hC.2.2.2.1 _ hw) rfl hC.2.2.2.2.1 hP hD b4 hA (fun _ => rfl) (by rw [Int32.lt_iff_toInt_lt]; show ¬ x.toInt < 0; omega) rfl (by show _ * 4 ≤ _; omega) hlim.1 hlim.2 hdg (fun q cA H1 g0 g1 g2 g3 => ?_)
        exact fin q _ H1 (zCell_mki (f := fun _ => 0) (Or.inl rfl) (g0.2 0 _ rfl) (fun j _ => (row0 j).symm) (fun z => absurd z (by decide))) g1 g2 g3
      · refine va_newa (atype := .long) (ty := .long) (tys := []) (a0 := (x.toNatClampNeg, .inr (.inl (fun _ => 0)))) hC.1 hC.2.1 (hC.2.2.2.1 _ hw) rfl hC.2.2.2.2.1 hP hD b4 hA (fun _ => rfl) (by rw [Int32.lt_iff_toInt_lt]; show ¬ x.toInt < 0; omega) rfl (by show _ * 8 ≤ _; omega) hlim.1 hlim.2 hdg (fun q cA H1 g0 g1 g2 g3 => ?_)
        exact fin q _ H1 (zCell_mkl (f := fun _ => 0) (g0.2 0 _ rfl) fun j _ => (row0 j).symm) g1 g2 g3
      · refine va_newa (atype := .boolean) (ty := .boolean) (tys := []) (a0 := (x.toNatClampNeg, .inl (fun _ => 0))) hC.1 hC.2.1 (hC.2.2.2.1 _ hw) rfl hC.2.2.2.2.1 hP hD b4 hA (fun _ => rfl) (by rw [Int32.lt_iff_toInt_lt]; show ¬ x.toInt < 0; omega) rfl (by show _ * 1 ≤ _; omega) hlim.1 hlim.2 hdg (fun q cA H1 g0 g1 g2 g3 => ?_)
        exact fin q _ H1 (zCell_mki (f := fun _ => 0) (Or.inr (Or.inl rfl)) (g0.2 0 _ rfl) (fun j _ => (row0 j).symm) (fun z => absurd z (by decide))) g1 g2 g3
      · refine va_newa (atype := .byte) (ty := .byte) (tys := []) (a0 := (x.toNatClampNeg, .inl (fun _ => 0))) hC.1 hC.2.1 (hC.2.2.2.1 _ hw) rfl hC.2.2.2.2.1 hP hD b4 hA (fun _ => rfl) (by rw [Int32.lt_iff_toInt_lt]; show ¬ x.toInt < 0; omega) rfl (by show _ * 1 ≤ _; omega) hlim.1 hlim.2 hdg (fun q cA H1 g0 g1 g2 g3 => ?_)
        exact fin q _ H1 (zCell_mki (f := fun _ => 0) (Or.inr (Or.inr rfl)) (g0.2 0 _ rfl) (fun j _ => (row0 j).symm) (fun _ j _ => by rw [row0 j]; omega)) g1 g2 g3
    · cases hs
  · cases hs
