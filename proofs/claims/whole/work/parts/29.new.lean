/-! new objects, rows of references; constants that lie elsewhere -/
theorem zs_anewarray {p : Program} {l : Launch} {e : Env} {R : Room} {s : State} {m : MethodId} {args : Array Value} {below : List Frame} {meth : Method} {c : Code} {Q : State → Prop} {K : zK} {ph : Bool} {c0 s0 : Int} {gs : zG} {own nm : String} {cc : ByteArray} {pc : Nat} {L st : List zV} {M : zM} {i : Nat} {u : Int} {st' : List zV} {M' : zM} (hC : zCtx K own nm cc p s m args meth c) (hdg : decode cc pc = .ok (.anewarray i, 3)) (hu : u = 14 ∨ u = 15) (hw : Cond.classLink own i (zAel u) ∈ zwl) (hov : Cond.arrayOver (.object (zAel u)) ∈ zwl)
    (hcs : c0 ≤ M (-1) 1 ∧ s0 ≤ M (-1) 2) (hlim : (M' (-1) 1 - c0).toNat ≤ R.cells ∧ (M' (-1) 2 - s0).toNat ≤ R.slots)
    (hs : zF4_a [u] st M = some (st', M')) (hk : ∀ gx, zGo p l e R s m args below meth c Q K ph c0 s0 (gs ++ gx) (pc + 3) L st' M') : zGo p l e R s m args below meth c Q K ph c0 s0 gs pc L st M := by
  unfold zF4_a at hs
  split at hs
  · rename_i n y st
    split at hs
    · rename_i hn
      cases hs
      intro ls rst H locs b0 b1 b2 b3 b4
      obtain ⟨ri, rst, rfl, hi, b2a⟩ := zVRs_cons b2
      obtain ⟨x, rfl, hx⟩ := zVR_i hi
      subst hx
      have hcl := zclamp hn.1
      rw [znew_m1, znew_m2] at hlim
      obtain ⟨z1, z2, ws, hP, hD, hR⟩ := id b3
      have hA : ∀ q, s.heap.size ≤ q → zA K q := fun q h => Nat.le_trans hC.2.2.2.2.2.2.1 h
      have e1 : (M (-1) 1 + 1 - c0).toNat = (M (-1) 1 - c0).toNat + 1 := by omega
      have e2 : (M (-1) 2 + x.toInt - s0).toNat = (M (-1) 2 - s0).toNat + x.toNatClampNeg := by omega
      rw [e1, e2] at hlim
      refine va_newq (C := zAel u) (tys := []) hC.1 hC.2.1 hC.2.2.1 (hC.2.2.2.1 _ hw) (va_AO.of (hC.2.2.2.1 _ hov)) hC.2.2.2.2.1 hP hD b4 hA (by rw [Int32.lt_iff_toInt_lt]; show ¬ x.toInt < 0; omega) rfl (by omega) hlim.1 hlim.2 hdg (fun q cA H1 g0 g1 g2 g3 => ?_)
      have := hk [(q, u, x.toInt)] ls (.ref q :: rst) H1 locs b0 ⟨b1.1, b1.2.1, fun i v hi hv => (b1.2.2 i v hi hv).elim fun rv h => ⟨rv, zVR_app h.1, h.2⟩⟩ ⟨by
          show zVR K _ (u, M (-1) 0, x.toInt) _
          rw [z1]
          exact zVR_mkcell (by omega) (by omega) (by omega) (by rw [List.getElem?_append_right (by omega), Nat.sub_self]; rfl), zVRs_app b2a⟩ (zRep_new z1 z2 hR ⟨hn.1, hn.2⟩ (zCell_mkq hu (g0.2 0 _ rfl) fun j _ hp => by
          have := znew_at M x.toInt (by omega) (j : Int)
          rw [z1] at this
          omega) g1 g2) g3
      rw [znew_m1, znew_m2, e1, e2] at this
      exact this
    · cases hs
  · cases hs
def zdefOK (c : Nat) (r : vw_C) : Prop := ∀ j, j < r.2.2 → ((zfs c j).1 = 60 → defaultValue (zty r j) = .int 0) ∧ ((zfs c j).1 = 61 → defaultValue (zty r j) = .long 0) ∧ (zfs c j).1 < 65
theorem zdef_ok {c : Nat} {r : vw_C} (h : zcls[c]? = some r) : zdefOK c r := by
  have hc : c < 12 := (List.getElem?_eq_some_iff.mp h).1
  rcases (show c = 0 ∨ c = 1 ∨ c = 2 ∨ c = 3 ∨ c = 4 ∨ c = 5 ∨ c = 6 ∨ c = 7 ∨ c = 8 ∨ c = 9 ∨ c = 10 ∨ c = 11 by omega) with rfl | rfl | rfl | rfl | rfl | rfl | rfl | rfl | rfl | rfl | rfl | rfl <;> cases h <;> clear hc <;> unfold zdefOK <;> decide +kernel
theorem zs_new {p : Program} {l : Launch} {e : Env} {R : Room} {s : State} {m : MethodId} {args : Array Value} {below : List Frame} {meth : Method} {c : Code} {Q : State → Prop} {K : zK} {ph : Bool} {c0 s0 : Int} {gs : zG} {own nm : String} {cc : ByteArray} {pc : Nat} {L st : List zV} {M : zM} {i ci : Nat} {r : vw_C} {st' : List zV} {M' : zM} (hC : zCtx K own nm cc p s m args meth c) (hdg : decode cc pc = .ok (.new i, 3)) (hph : ph = false) (hc : zcls[ci]? = some r) (hw : Cond.classLink own i r.1 ∈ zwl) (hwi : Cond.instantiable r.1 r.2.2 ∈ zwl) (hwn : Cond.initialized r.1 ∈ zwl)
    (hcs : c0 ≤ M (-1) 1 ∧ s0 ≤ M (-1) 2) (hlim : (M' (-1) 1 - c0).toNat ≤ R.cells ∧ (M' (-1) 2 - s0).toNat ≤ R.slots)
    (hst : st' = (20 + (ci : Int), M (-1) 0, 0) :: st) (hM : M' = znew M r.2.2) (hk : ∀ gx, zGo p l e R s m args below meth c Q K ph c0 s0 (gs ++ gx) (pc + 3) L st' M') : zGo p l e R s m args below meth c Q K ph c0 s0 gs pc L st M := by
  subst hst; subst hM; subst hph
  intro ls rst H locs b0 b1 b2 b3 b4
  rw [znew_m1, znew_m2] at hlim
  obtain ⟨z1, z2, ws, hP, hD, hR⟩ := id b3
  have hA : ∀ q, s.heap.size ≤ q → zA K q := fun q h => Nat.le_trans hC.2.2.2.2.2.2.1 h
  have e1 : (M (-1) 1 + 1 - c0).toNat = (M (-1) 1 - c0).toNat + 1 := by omega
  have e2 : (M (-1) 2 + (r.2.2 : Int) - s0).toNat = (M (-1) 2 - s0).toNat + r.2.2 := by omega
  rw [e1, e2] at hlim
  have hok := zcls_ok hc
  have hc12 : ci < 12 := (List.getElem?_eq_some_iff.mp hc).1
  refine va_new (D := zD K) (cl := zcls) (tys := []) (C := r.1) (T := r.2.1) (N := r.2.2) (fs := (List.range r.2.2).map fun j => defaultValue (zty r j)) hC.1 hC.2.1 hC.2.2.2.1 hok.1 (zty r) hok.2.1 hC.2.2.1 (hC.2.2.2.1 _ hw) (hC.2.2.2.1 _ hwi) (hC.2.2.2.1 _ hwn) hC.2.2.2.2.1 hP hD b4 hA hc (fun j hj => by
    unfold vp_V
    rw [List.getD_eq_getElem?_getD, List.getElem?_map, List.getElem?_range hj]
    rfl) hlim.1 hlim.2 hdg (fun q H1 g1 g2 g3 => ?_)
  have := hk [(q, 20 + (ci : Int), 0)] ls (.ref q :: rst) H1 locs b0 ⟨b1.1, b1.2.1, fun i v hi hv => (b1.2.2 i v hi hv).elim fun rv h => ⟨rv, zVR_app h.1, h.2⟩⟩ ⟨by
      rw [z1]
      exact zVR_mkcell (by omega) (by omega) (by omega) (by rw [List.getElem?_append_right (by omega), Nat.sub_self]; rfl), zVRs_app b2⟩ (zRep_new z1 z2 hR ⟨by omega, by omega⟩ (zCell_mkobj hc (by simp) fun j rv hj => by
      rw [List.getElem?_map] at hj
      have hjl : j < r.2.2 := by
        rcases Nat.lt_or_ge j r.2.2 with h | h
        · exact h
        · rw [List.getElem?_eq_none (by simpa using h)] at hj; cases hj
      rw [List.getElem?_range hjl] at hj
      cases hj
      obtain ⟨d1, d2, d3⟩ := zdef_ok hc j hjl
      have row0 := fun y => znew_at M r.2.2 (by omega) y
      rw [z1] at row0
      unfold zFld
      split
      · rename_i h; dsimp only; rw [d1 h, row0]; exact zVR_mki 0 rfl
      split
      · rename_i h; dsimp only; rw [d2 h, row0]; exact zVR_mkl 0 rfl
      split
      · rintro (h | h)
        · cases h
        · rw [row0] at h; omega
      split
      · intro h; rw [row0] at h; omega
      · intro h; rw [row0] at h; omega) g1 g2) g3
  rw [znew_m1, znew_m2, e1, e2] at this
  exact this
/-! statics -/
theorem zs_getenum {p : Program} {l : Launch} {e : Env} {R : Room} {s : State} {m : MethodId} {args : Array Value} {below : List Frame} {meth : Method} {c : Code} {Q : State → Prop} {K : zK} {ph : Bool} {c0 s0 : Int} {gs : zG} {own nm : String} {cc : ByteArray} {pc : Nat} {L st : List zV} {M : zM} {i : Nat} {en : Nat} (hC : zCtx K own nm cc p s m args meth c) (hdg : decode cc pc = .ok (.getstatic i, 3)) (hen : en < 34) (hw : Cond.fieldLink own i zEW (zEnm.getD en "") zEWd ∈ zwl)
    (hk : zGo p l e R s m args below meth c Q K ph c0 s0 gs (pc + 3) L ((4, (en : Int) + 1, 0) :: st) M) : zGo p l e R s m args below meth c Q K ph c0 s0 gs pc L st M := by
  intro ls rst H locs b0 b1 b2 b3 b4
  have hE := (hC.2.2.2.2.2.1.1.1 en hen).1
  refine va_gets hC.1 hC.2.1 hE b4 hC.2.2.1 (hC.2.2.2.1 _ hw) (fun _ z => z) hdg ?_
  exact hk ls (_ :: rst) H locs b0 b1 ⟨zVR_mkstat (by omega) (by simp only [zrng, if_true]; omega) (fun z => absurd rfl z), b2⟩ b3 b4
theorem zs_getsw {p : Program} {l : Launch} {e : Env} {R : Room} {s : State} {m : MethodId} {args : Array Value} {below : List Frame} {meth : Method} {c : Code} {Q : State → Prop} {K : zK} {ph : Bool} {c0 s0 : Int} {gs : zG} {own nm : String} {cc : ByteArray} {pc : Nat} {L st : List zV} {M : zM} {i : Nat} (hC : zCtx K own nm cc p s m args meth c) (hdg : decode cc pc = .ok (.getstatic i, 3)) (hw : Cond.fieldLink own i "ClogVotes$1" "$SwitchMap$ClogVotes$Word" "[I" ∈ zwl)
    (hk : zGo p l e R s m args below meth c Q K ph c0 s0 gs (pc + 3) L ((5, 0, 34) :: st) M) : zGo p l e R s m args below meth c Q K ph c0 s0 gs pc L st M := by
  intro ls rst H locs b0 b1 b2 b3 b4
  obtain ⟨-, -, ⟨g5, -⟩, -⟩ := hC.2.2.2.2.2.1
  refine va_gets hC.1 hC.2.1 g5 b4 hC.2.2.1 (hC.2.2.2.1 _ hw) (fun _ z => z) hdg ?_
  exact hk ls (_ :: rst) H locs b0 b1 ⟨zVR_mkstat (by omega) rfl (fun _ => rfl), b2⟩ b3 b4
theorem zs_getwords {p : Program} {l : Launch} {e : Env} {R : Room} {s : State} {m : MethodId} {args : Array Value} {below : List Frame} {meth : Method} {c : Code} {Q : State → Prop} {K : zK} {ph : Bool} {c0 s0 : Int} {gs : zG} {own nm : String} {cc : ByteArray} {pc : Nat} {L st : List zV} {M : zM} {i : Nat} (hC : zCtx K own nm cc p s m args meth c) (hdg : decode cc pc = .ok (.getstatic i, 3)) (hw : Cond.fieldLink own i "ClogVotes" "WORDS" "[LClogVotes$Word;" ∈ zwl)
    (hk : zGo p l e R s m args below meth c Q K ph c0 s0 gs (pc + 3) L ((6, 0, 34) :: st) M) : zGo p l e R s m args below meth c Q K ph c0 s0 gs pc L st M := by
  intro ls rst H locs b0 b1 b2 b3 b4
  obtain ⟨-, -, -, ⟨g6, -⟩, -⟩ := hC.2.2.2.2.2.1
  refine va_gets hC.1 hC.2.1 g6 b4 hC.2.2.1 (hC.2.2.2.1 _ hw) (fun _ z => z) hdg ?_
  exact hk ls (_ :: rst) H locs b0 b1 ⟨zVR_mkstat (by omega) rfl (fun _ => rfl), b2⟩ b3 b4
theorem zs_getwordsN {p : Program} {l : Launch} {e : Env} {R : Room} {s : State} {m : MethodId} {args : Array Value} {below : List Frame} {meth : Method} {c : Code} {Q : State → Prop} {K : zK} {ph : Bool} {c0 s0 : Int} {gs : zG} {own nm : String} {cc : ByteArray} {pc : Nat} {L st : List zV} {M : zM} {i : Nat} {host : String} (hC : zCtx K own nm cc p s m args meth c) (hdg : decode cc pc = .ok (.getstatic i, 3)) (hw : Cond.fieldLinkNest own i "ClogVotes" "WORDS" "[LClogVotes$Word;" host ∈ zwl)
    (hk : zGo p l e R s m args below meth c Q K ph c0 s0 gs (pc + 3) L ((6, 0, 34) :: st) M) : zGo p l e R s m args below meth c Q K ph c0 s0 gs pc L st M := by
  intro ls rst H locs b0 b1 b2 b3 b4
  obtain ⟨-, -, -, ⟨g6, -⟩, -⟩ := hC.2.2.2.2.2.1
  refine va_getsN hC.1 hC.2.1 g6 b4 hC.2.2.1 (hC.2.2.2.1 _ hw) (fun _ z => z) hdg ?_
  exact hk ls (_ :: rst) H locs b0 b1 ⟨zVR_mkstat (by omega) rfl (fun _ => rfl), b2⟩ b3 b4
theorem zs_getdig {p : Program} {l : Launch} {e : Env} {R : Room} {s : State} {m : MethodId} {args : Array Value} {below : List Frame} {meth : Method} {c : Code} {Q : State → Prop} {K : zK} {ph : Bool} {c0 s0 : Int} {gs : zG} {own nm : String} {cc : ByteArray} {pc : Nat} {L st : List zV} {M : zM} {i : Nat} {k : Int} {nme : String} (hC : zCtx K own nm cc p s m args meth c) (hdg : decode cc pc = .ok (.getstatic i, 3)) (hn : (nme = "DigitOnes" ∧ k = 0) ∨ (nme = "DigitTens" ∧ k = 1)) (hw : Cond.fieldLink own i "java/lang/Integer" nme "[B" ∈ zwl)
    (hk : zGo p l e R s m args below meth c Q K ph c0 s0 gs (pc + 3) L ((7, k, 100) :: st) M) : zGo p l e R s m args below meth c Q K ph c0 s0 gs pc L st M := by
  intro ls rst H locs b0 b1 b2 b3 b4
  obtain ⟨-, -, -, -, ⟨g7, -⟩, ⟨g8, -⟩, -⟩ := hC.2.2.2.2.2.1
  rcases hn with ⟨rfl, rfl⟩ | ⟨rfl, rfl⟩
  · refine va_gets hC.1 hC.2.1 g7 b4 hC.2.2.1 (hC.2.2.2.1 _ hw) (fun _ z => z) hdg ?_
    exact hk ls (_ :: rst) H locs b0 b1 ⟨zVR_mkstat (by omega) ⟨by omega, by omega⟩ (fun _ => rfl), b2⟩ b3 b4
  · refine va_gets hC.1 hC.2.1 g8 b4 hC.2.2.1 (hC.2.2.2.1 _ hw) (fun _ z => z) hdg ?_
    exact hk ls (_ :: rst) H locs b0 b1 ⟨zVR_mkstat (by omega) ⟨by omega, by omega⟩ (fun _ => rfl), b2⟩ b3 b4
theorem zs_getcs {p : Program} {l : Launch} {e : Env} {R : Room} {s : State} {m : MethodId} {args : Array Value} {below : List Frame} {meth : Method} {c : Code} {Q : State → Prop} {K : zK} {ph : Bool} {c0 s0 : Int} {gs : zG} {own nm : String} {cc : ByteArray} {pc : Nat} {L st : List zV} {M : zM} {i : Nat} (hC : zCtx K own nm cc p s m args meth c) (hdg : decode cc pc = .ok (.getstatic i, 3)) (hw : Cond.fieldLink own i "java/lang/String" "COMPACT_STRINGS" "Z" ∈ zwl)
    (hk : zGo p l e R s m args below meth c Q K ph c0 s0 gs (pc + 3) L ((0, 1, 0) :: st) M) : zGo p l e R s m args below meth c Q K ph c0 s0 gs pc L st M := by
  intro ls rst H locs b0 b1 b2 b3 b4
  obtain ⟨-, -, -, -, -, -, g, -⟩ := hC.2.2.2.2.2.1
  refine va_gets hC.1 hC.2.1 g b4 hC.2.2.1 (hC.2.2.2.1 _ hw) (fun _ z => z) hdg ?_
  exact hk ls (_ :: rst) H locs b0 b1 ⟨zVR_mki 1 rfl, b2⟩ b3 b4
theorem zs_getfmt {p : Program} {l : Launch} {e : Env} {R : Room} {s : State} {m : MethodId} {args : Array Value} {below : List Frame} {meth : Method} {c : Code} {Q : State → Prop} {K : zK} {ph : Bool} {c0 s0 : Int} {gs : zG} {own nm : String} {cc : ByteArray} {pc : Nat} {L st : List zV} {M : zM} {i : Nat} (hC : zCtx K own nm cc p s m args meth c) (hdg : decode cc pc = .ok (.getstatic i, 3)) (hw : Cond.fieldLink own i "jdk/internal/util/Preconditions" "SIOOBE_FORMATTER" "Ljava/util/function/BiFunction;" ∈ zwl)
    (hk : zGo p l e R s m args below meth c Q K ph c0 s0 gs (pc + 3) L ((17, 0, 0) :: st) M) : zGo p l e R s m args below meth c Q K ph c0 s0 gs pc L st M := by
  intro ls rst H locs b0 b1 b2 b3 b4
  obtain ⟨-, -, -, -, -, -, -, g, -⟩ := hC.2.2.2.2.2.1
  rcases g with g | ⟨t, g⟩
  · refine va_gets hC.1 hC.2.1 g b4 hC.2.2.1 (hC.2.2.2.1 _ hw) (fun _ z => z) hdg ?_
    exact hk ls (_ :: rst) H locs b0 b1 ⟨by unfold zVR; rw [if_neg (by decide), if_neg (by decide), if_neg (by decide), if_pos rfl]; exact Or.inl rfl, b2⟩ b3 b4
  · refine va_gets hC.1 hC.2.1 g b4 hC.2.2.1 (hC.2.2.2.1 _ hw) (fun _ z => z) hdg ?_
    exact hk ls (_ :: rst) H locs b0 b1 ⟨by unfold zVR; rw [if_neg (by decide), if_neg (by decide), if_neg (by decide), if_pos rfl]; exact Or.inr ⟨t, rfl⟩, b2⟩ b3 b4
theorem zs_ldcs {p : Program} {l : Launch} {e : Env} {R : Room} {s : State} {m : MethodId} {args : Array Value} {below : List Frame} {meth : Method} {c : Code} {Q : State → Prop} {K : zK} {ph : Bool} {c0 s0 : Int} {gs : zG} {own nm : String} {cc : ByteArray} {pc : Nat} {L st : List zV} {M : zM} {i k : Nat} {q : String × Nat × String} (hC : zCtx K own nm cc p s m args meth c) (hdg : decode cc pc = .ok (.ldc i, 2)) (hq : zstn[k]? = some q) (h1 : q.1 = own) (h2 : q.2.1 = i)
    (hk : zGo p l e R s m args below meth c Q K ph c0 s0 gs (pc + 2) L ((8, (k : Int), ((zstr.getD k []).length : Int)) :: st) M) : zGo p l e R s m args below meth c Q K ph c0 s0 gs pc L st M := by
  intro ls rst H locs b0 b1 b2 b3 b4
  obtain ⟨-, -, -, -, -, -, -, -, -, g, -⟩ := hC.2.2.2.2.2.1
  have hZ := g k q hq
  rw [h1, h2] at hZ
  have h8 : k < 8 := (List.getElem?_eq_some_iff.mp hq).1
  refine va_ldcS hC.1 hC.2.1 hC.2.2.1 hZ hdg ?_
  exact hk ls (_ :: rst) H locs b0 b1 ⟨zVR_mkstat (by omega) (by simp only [zrng]; rw [if_neg (by decide), if_neg (by decide), if_neg (by decide), if_neg (by decide)]; omega) (fun _ => rfl), b2⟩ b3 b4
