/-! places of cells: reading and writing fields -/
def zty (r : vw_C) : Nat → FieldType := fun k => (parseFieldDescriptor (r.2.1 k).2.2.1).getD .int
def zclsOK (q : vw_C) : Prop := (∀ w ∈ u_ws q.1 q.2.1 q.2.2, w ∈ zwl) ∧ (∀ k, k < q.2.2 → parseFieldDescriptor (q.2.1 k).2.2.1 = some (zty q k)) ∧ (∀ a, a < q.2.2 → ∀ b, b < q.2.2 → a ≠ b → (q.2.1 a).2.1 ≠ (q.2.1 b).2.1)
set_option maxRecDepth 20000 in
theorem zclsOK_0 : zclsOK (zR0, zT0, 5) := ⟨fun w hw => zwl_of ((show ∀ w ∈ u_ws zR0 zT0 5, w ∈ lw_tbl by decide +kernel) w hw) ((show ∀ w ∈ u_ws zR0 zT0 5, zwok w = true by decide +kernel) w hw), by decide +kernel, by decide +kernel⟩
set_option maxRecDepth 20000 in
theorem zclsOK_1 : zclsOK (zR1, zT1, 4) := ⟨fun w hw => zwl_of ((show ∀ w ∈ u_ws zR1 zT1 4, w ∈ lw_tbl by decide +kernel) w hw) ((show ∀ w ∈ u_ws zR1 zT1 4, zwok w = true by decide +kernel) w hw), by decide +kernel, by decide +kernel⟩
set_option maxRecDepth 20000 in
theorem zclsOK_2 : zclsOK (zR2, zT2, 15) := ⟨fun w hw => zwl_of ((show ∀ w ∈ u_ws zR2 zT2 15, w ∈ lw_tbl by decide +kernel) w hw) ((show ∀ w ∈ u_ws zR2 zT2 15, zwok w = true by decide +kernel) w hw), by decide +kernel, by decide +kernel⟩
set_option maxRecDepth 20000 in
theorem zclsOK_3 : zclsOK (zR3, zT3, 4) := ⟨fun w hw => zwl_of ((show ∀ w ∈ u_ws zR3 zT3 4, w ∈ lw_tbl by decide +kernel) w hw) ((show ∀ w ∈ u_ws zR3 zT3 4, zwok w = true by decide +kernel) w hw), by decide +kernel, by decide +kernel⟩
set_option maxRecDepth 20000 in
theorem zclsOK_4 : zclsOK (zR4, zT4, 6) := ⟨fun w hw => zwl_of ((show ∀ w ∈ u_ws zR4 zT4 6, w ∈ lw_tbl by decide +kernel) w hw) ((show ∀ w ∈ u_ws zR4 zT4 6, zwok w = true by decide +kernel) w hw), by decide +kernel, by decide +kernel⟩
set_option maxRecDepth 20000 in
theorem zclsOK_5 : zclsOK (zR5, zT5, 6) := ⟨fun w hw => zwl_of ((show ∀ w ∈ u_ws zR5 zT5 6, w ∈ lw_tbl by decide +kernel) w hw) ((show ∀ w ∈ u_ws zR5 zT5 6, zwok w = true by decide +kernel) w hw), by decide +kernel, by decide +kernel⟩
set_option maxRecDepth 20000 in
theorem zclsOK_6 : zclsOK (zR6, zT6, 11) := ⟨fun w hw => zwl_of ((show ∀ w ∈ u_ws zR6 zT6 11, w ∈ lw_tbl by decide +kernel) w hw) ((show ∀ w ∈ u_ws zR6 zT6 11, zwok w = true by decide +kernel) w hw), by decide +kernel, by decide +kernel⟩
set_option maxRecDepth 20000 in
theorem zclsOK_7 : zclsOK (zR7, zT7, 12) := ⟨fun w hw => zwl_of ((show ∀ w ∈ u_ws zR7 zT7 12, w ∈ lw_tbl by decide +kernel) w hw) ((show ∀ w ∈ u_ws zR7 zT7 12, zwok w = true by decide +kernel) w hw), by decide +kernel, by decide +kernel⟩
set_option maxRecDepth 20000 in
theorem zclsOK_8 : zclsOK (zR8, zT8, 12) := ⟨fun w hw => zwl_of ((show ∀ w ∈ u_ws zR8 zT8 12, w ∈ lw_tbl by decide +kernel) w hw) ((show ∀ w ∈ u_ws zR8 zT8 12, zwok w = true by decide +kernel) w hw), by decide +kernel, by decide +kernel⟩
set_option maxRecDepth 20000 in
theorem zclsOK_9 : zclsOK (zR9, zT9, 15) := ⟨fun w hw => zwl_of ((show ∀ w ∈ u_ws zR9 zT9 15, w ∈ lw_tbl by decide +kernel) w hw) ((show ∀ w ∈ u_ws zR9 zT9 15, zwok w = true by decide +kernel) w hw), by decide +kernel, by decide +kernel⟩
set_option maxRecDepth 20000 in
theorem zclsOK_10 : zclsOK (zR10, zT10, 50) := ⟨fun w hw => zwl_of ((show ∀ w ∈ u_ws zR10 zT10 50, w ∈ lw_tbl by decide +kernel) w hw) ((show ∀ w ∈ u_ws zR10 zT10 50, zwok w = true by decide +kernel) w hw), by decide +kernel, by decide +kernel⟩
set_option maxRecDepth 20000 in
theorem zclsOK_11 : zclsOK (zR11, zT11, 4) := ⟨fun w hw => zwl_of ((show ∀ w ∈ u_ws zR11 zT11 4, w ∈ lw_tbl by decide +kernel) w hw) ((show ∀ w ∈ u_ws zR11 zT11 4, zwok w = true by decide +kernel) w hw), by decide +kernel, by decide +kernel⟩
theorem zcls_ok {c : Nat} {r : vw_C} (h : zcls[c]? = some r) : zclsOK r := by
  have hc : c < 12 := (List.getElem?_eq_some_iff.mp h).1
  rcases (show c = 0 ∨ c = 1 ∨ c = 2 ∨ c = 3 ∨ c = 4 ∨ c = 5 ∨ c = 6 ∨ c = 7 ∨ c = 8 ∨ c = 9 ∨ c = 10 ∨ c = 11 by omega) with rfl | rfl | rfl | rfl | rfl | rfl | rfl | rfl | rfl | rfl | rfl | rfl <;> cases h
  · exact zclsOK_0
  · exact zclsOK_1
  · exact zclsOK_2
  · exact zclsOK_3
  · exact zclsOK_4
  · exact zclsOK_5
  · exact zclsOK_6
  · exact zclsOK_7
  · exact zclsOK_8
  · exact zclsOK_9
  · exact zclsOK_10
  · exact zclsOK_11
/-- the cell behind a reference -/
theorem zRel_cell {K : zK} {ph : Bool} {gs : zG} {M : zM} {s : State} {ws : va_W} {k q : Nat} {t n : Int} (h : zRel K ph gs M s ws) (hg : gs[k]? = some (q, t, n)) : ∃ e : va_E, ws[k]? = some (q, e) ∧ zCell K ph gs M s k (q, t, n) (q, e) := by
  have hl : k < ws.length := by rw [h.1]; exact (List.getElem?_eq_some_iff.mp hg).1
  have hw := List.getElem?_eq_getElem hl
  have hc := h.2.2 k _ _ hg hw
  have he : ws[k] = (q, ws[k].2) := Prod.ext hc.1 rfl
  exact ⟨ws[k].2, by rw [hw, he], by rw [← he]; exact hc⟩
theorem zCell_obj {K : zK} {ph : Bool} {gs : zG} {M : zM} {s : State} {k q : Nat} {t n : Int} {e : va_E} {c : Nat} (h : zCell K ph gs M s k (q, t, n) (q, e)) (ht : t = 20 + (c : Int)) :
    n = 0 ∧ ∃ (r : vw_C) (fs : List Value), zcls[c]? = some r ∧ e = .inr (c, fs) ∧ fs.length = r.2.2 ∧ ∀ (j : Nat) (rv : Value), fs[j]? = some rv → zFld K ph gs M k j (zfs c j) rv := by
  have h := h.2
  dsimp only at h
  rw [if_neg (by omega), if_neg (by omega), if_neg (by omega)] at h
  obtain ⟨c', e1, e2, h⟩ := h
  have : c' = c := by omega
  subst this
  exact ⟨e2, h⟩
theorem zCell_mkobj {K : zK} {ph : Bool} {gs : zG} {M : zM} {s : State} {k q : Nat} {c : Nat} {r : vw_C} {fs : List Value} (h1 : zcls[c]? = some r) (h2 : fs.length = r.2.2) (h3 : ∀ (j : Nat) (rv : Value), fs[j]? = some rv → zFld K ph gs M k j (zfs c j) rv) : zCell K ph gs M s k (q, 20 + (c : Int), 0) (q, .inr (c, fs)) := by
  refine ⟨rfl, ?_⟩
  dsimp only
  rw [if_neg (by omega), if_neg (by omega), if_neg (by omega)]
  exact ⟨c, rfl, rfl, r, fs, h1, rfl, h2, h3⟩
theorem zRel_set {K : zK} {ph : Bool} {gs : zG} {M M' : zM} {s : State} {ws : va_W} {k q : Nat} {t n : Int} {w' : Nat × va_E} (h : zRel K ph gs M s ws) (hg : gs[k]? = some (q, t, n)) (hrow : ∀ x : Int, x ≠ k → ∀ y, M' x y = M x y) (hc : zCell K ph gs M' s k (q, t, n) w') : zRel K ph gs M' s (ws.set k w') := by
  refine ⟨by rw [List.length_set]; exact h.1, h.2.1, fun i g w hi hw => ?_⟩
  by_cases hik : i = k
  · subst hik
    rw [List.getElem?_set_self (by rw [h.1]; exact (List.getElem?_eq_some_iff.mp hg).1)] at hw
    cases hw
    cases hg.symm.trans hi
    exact hc
  · rw [List.getElem?_set_ne (Ne.symm hik)] at hw
    have := zCell_congr (gx := []) (M' := M') (s' := s) (h.2.2 i g w hi hw) (fun y => hrow i (by omega) y) (fun _ _ z => z)
    rw [List.append_nil] at this
    exact this
theorem zup_row (M : zM) {a j v x : Int} (h : x ≠ a) (y : Int) : zup M a j v x y = M x y := by simp [zup, h]
theorem zup_at (M : zM) {a : Int} (j v : Int) (h : a ≠ -1) (y : Int) : zup M a j v a y = if y = j then v else M a y := by simp [zup, h]
section ZFIELD
variable {p : Program} {l : Launch} {e : Env} {R : Room} {s : State} {m : MethodId} {args : Array Value} {below : List Frame} {meth : Method} {c : Code} {Q : State → Prop} {H : Heap} {locs : List Loc} {cells slots : Nat} {ls : Array Slot} {rest : List Value} {K : zK} {ph : Bool} {gs : zG} {own nm : String} {cc : ByteArray} {pc : Nat} {M : zM}
/-- a field is read -/
theorem zget_W (hC : zCtx K own nm cc p s m args meth c) {a n : Int} {rv : Value} {i ci j : Nat} {r : vw_C} (hdg : decode cc pc = .ok (.getfield i, 3)) (hc : zcls[ci]? = some r) (hj : j < r.2.2) (hw : Cond.fieldLink own i (r.2.1 j).1 (r.2.1 j).2.1 (r.2.1 j).2.2.1 ∈ zwl)
    (hv : zVR K gs (20 + (ci : Int), a, n) rv) (h3 : zRep K ph gs M s H)
    (kk : ∀ rv', zFld K ph gs M a j (zfs ci j) rv' → W p l e R s m args below meth c H locs cells slots Q (F0 m (pc + 3) ls (rv' :: rest))) : W p l e R s m args below meth c H locs cells slots Q (F0 m pc ls (rv :: rest)) := by
  obtain ⟨k, q, rfl, hg, rfl⟩ := zVR_cell hv (by omega) (by omega) (by omega)
  obtain ⟨-, -, ws, hP, hD, hR⟩ := h3
  obtain ⟨E, hws, hcell⟩ := zRel_cell hR hg
  obtain ⟨-, r', fs, hc', rfl, hlen, hfs⟩ := zCell_obj hcell rfl
  cases hc.symm.trans hc'
  have hjl : j < fs.length := by rw [hlen]; exact hj
  exact va_get (D := zD K) (cl := zcls) (tys := []) (C := r.1) (T := r.2.1) (N := r.2.2) hC.1 hC.2.1 hC.2.2.2.1 (zcls_ok hc).1 hC.2.2.1 hC.2.2.2.2.1 hP k hws hc j hj (hC.2.2.2.1 _ hw) (fun _ z => z) (List.getElem?_eq_getElem hjl) hdg (kk _ (hfs j _ (List.getElem?_eq_getElem hjl)))
/-- a field is written -/
theorem zput_W (hC : zCtx K own nm cc p s m args meth c) {a n : Int} {M' : zM} {rv rx : Value} {i ci j : Nat} {r : vw_C} (hdg : decode cc pc = .ok (.putfield i, 3)) (hc : zcls[ci]? = some r) (hj : j < r.2.2) (hw : Cond.fieldLink own i (r.2.1 j).1 (r.2.1 j).2.1 (r.2.1 j).2.2.1 ∈ zwl)
    (hfin : (r.2.1 j).2.2.2 = false ∨ ((r.2.1 j).2.2.2 = true ∧ nm = "<init>" ∧ (r.2.1 j).1 = own)) (hn : narrow (zty r j) rx = rx) (hfit : fits (zty r j) rx = true)
    (hv : zVR K gs (20 + (ci : Int), a, n) rv) (h3 : zRep K ph gs M s H) (h4 : va_S (zA K) s.heap H locs)
    (hrow : ∀ x : Int, x ≠ a → ∀ y, M' x y = M x y) (hself : ∀ y : Int, y ≠ j → y ≠ 1000 + j → M' a y = M a y) (hbig : r.2.2 ≤ 1000) (hnew : zFld K ph gs M' a j (zfs ci j) rx)
    (kk : ∀ (H1 : Heap) (locs1 : List Loc), zRep K ph gs M' s H1 → va_S (zA K) s.heap H1 locs1 → W p l e R s m args below meth c H1 locs1 cells slots Q (F0 m (pc + 3) ls rest)) : W p l e R s m args below meth c H locs cells slots Q (F0 m pc ls (rx :: rv :: rest)) := by
  obtain ⟨k, q, rfl, hg, rfl⟩ := zVR_cell hv (by omega) (by omega) (by omega)
  obtain ⟨z1, z2, ws, hP, hD, hR⟩ := h3
  obtain ⟨E, hws, hcell⟩ := zRel_cell hR hg
  obtain ⟨hn0, r', fs, hc', rfl, hlen, hfs⟩ := zCell_obj hcell rfl
  cases hc.symm.trans hc'
  subst hn0
  have hjl : j < fs.length := by rw [hlen]; exact hj
  have hok := zcls_ok hc
  have fin : ∀ (H1 : Heap) (locs1 : List Loc), va_P (zD K) zcls (ws.set k (q, .inr (ci, fs.set j rx))) H1 → va_D (zA K) (ws.set k (q, .inr (ci, fs.set j rx))) → va_S (zA K) s.heap H1 locs1 → W p l e R s m args below meth c H1 locs1 cells slots Q (F0 m (pc + 3) ls rest) := by
    intro H1 locs1 hP1 hD1 hS1
    refine kk H1 locs1 ⟨by rw [hrow (-1) (by omega)]; exact z1, fun i hi => by rw [hrow (-2) (by omega)]; exact z2 i hi, _, hP1, hD1, zRel_set hR hg hrow (zCell_mkobj hc (by rw [List.length_set]; exact hlen) fun y rv hy => ?_)⟩ hS1
    by_cases hyj : y = j
    · subst hyj
      rw [List.getElem?_set_self hjl] at hy
      cases hy
      exact hnew
    · rw [List.getElem?_set_ne (Ne.symm hyj)] at hy
      have hyl : y < r.2.2 := by rw [← hlen]; exact (List.getElem?_eq_some_iff.mp hy).1
      have h5 := hfs y rv hy
      unfold zFld at h5 ⊢
      rw [hself y (by omega) (by omega), hself (1000 + y) (by omega) (by omega)]
      exact h5
  rcases hfin with hfin | ⟨hfin, hni, hdecl⟩
  · exact va_put (D := zD K) (cl := zcls) (tys := []) (C := r.1) (T := r.2.1) (N := r.2.2) hC.1 hC.2.1 hC.2.2.2.1 hok.1 (zty r) hok.2.1 hok.2.2 hC.2.2.1 hC.2.2.2.2.1 hP hD h4 k hws hc j hj (hC.2.2.2.1 _ hw) (fun _ z => z) hfin (hok.2.1 j hj) hn hfit hjl hdg fin
  · exact va_putF (D := zD K) (cl := zcls) (tys := []) (C := r.1) (T := r.2.1) (N := r.2.2) hC.1 hC.2.1 hC.2.2.2.1 hok.1 (zty r) hok.2.1 hok.2.2 hC.2.2.1 hC.2.2.2.2.1 hP hD h4 k hws hc j hj (hC.2.2.2.1 _ hw) (fun _ z => z) hfin (hC.2.2.2.2.2.2.2.2.trans hni) hdecl (hok.2.1 j hj) hn hfit hjl hdg fin
end ZFIELD
theorem zs_getfield {p : Program} {l : Launch} {e : Env} {R : Room} {s : State} {m : MethodId} {args : Array Value} {below : List Frame} {meth : Method} {c : Code} {Q : State → Prop} {K : zK} {ph : Bool} {c0 s0 : Int} {gs : zG} {own nm : String} {cc : ByteArray} {pc : Nat} {L st : List zV} {M : zM} {i ci j op : Nat} {r : vw_C} {rr : List Int} {st' : List zV} {M' : zM} (hC : zCtx K own nm cc p s m args meth c) (hdg : decode cc pc = .ok (.getfield i, 3)) (hc : zcls[ci]? = some r) (hj : j < r.2.2) (hw : Cond.fieldLink own i (r.2.1 j).1 (r.2.1 j).2.1 (r.2.1 j).2.2.1 ∈ zwl)
    (hop : op = (zfs ci j).1 ∧ 60 ≤ op ∧ op ≤ 64) (h0 : zr0 rr = 20 + (ci : Int)) (h1 : zr1 rr = j) (h62 : op = 62 → zr2 rr = (zfs ci j).2.1 ∧ zr3 rr = (zfs ci j).2.2.1 ∧ zr4 rr = (zfs ci j).2.2.2) (h64 : op = 64 → zr2 rr = (zfs ci j).2.2.1)
    (hs : zF3_g ph op rr st M = some (st', M')) (hk : zGo p l e R s m args below meth c Q K ph c0 s0 gs (pc + 3) L st' M') : zGo p l e R s m args below meth c Q K ph c0 s0 gs pc L st M := by
  unfold zF3_g at hs
  split at hs
  · rename_i t a x st
    split at hs
    · rename_i ht
      rw [h0] at ht
      subst ht
      rw [h1] at hs
      intro ls rst H locs b0 b1 b2 b3 b4
      obtain ⟨rv, rst, rfl, hv, b2a⟩ := zVRs_cons b2
      refine zget_W hC hdg hc hj hw hv b3 (fun rv' hf => ?_)
      unfold zFld at hf
      rw [← hop.1] at hf
      by_cases e0 : op = 60
      · rw [if_pos e0] at hs hf
        cases hs
        exact hk ls (_ :: rst) H locs b0 b1 ⟨hf, b2a⟩ b3 b4
      rw [if_neg e0] at hs hf
      by_cases e1 : op = 61
      · rw [if_pos e1] at hs hf
        cases hs
        exact hk ls (_ :: rst) H locs b0 b1 ⟨hf, b2a⟩ b3 b4
      rw [if_neg e1] at hs hf
      by_cases e2 : op = 62
      · rw [if_pos e2] at hs hf
        split at hs
        · rename_i hph
          obtain ⟨q1, q2, q3⟩ := h62 e2
          rw [q1, q2, q3] at hs
          cases hs
          exact hk ls (_ :: rst) H locs b0 b1 ⟨hf hph, b2a⟩ b3 b4
        · cases hs
      rw [if_neg e2] at hs hf
      by_cases e3 : op = 63
      · rw [if_pos e3] at hs hf
        split at hs
        · rename_i hpos
          cases hs
          exact hk ls (_ :: rst) H locs b0 b1 ⟨hf hpos, b2a⟩ b3 b4
        · cases hs
      rw [if_neg e3] at hs hf
      split at hs
      · rename_i hpos
        rw [h64 (by omega)] at hs
        cases hs
        exact hk ls (_ :: rst) H locs b0 b1 ⟨hf hpos, b2a⟩ b3 b4
      · cases hs
    · cases hs
  · cases hs
