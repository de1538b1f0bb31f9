/-! rows: length, reading, writing, making -/
theorem zK1 {D : va_G} {s : State} {cA : ClassId} {ty : FieldType} (hK : va_K D zcls [] s) (h : zArr s cA ty) : va_K D zcls [(cA, ty)] s := by
  refine ⟨hK.1, fun k q hk => ?_⟩
  cases k with
  | zero => cases hk; exact h
  | succ k => simp at hk
theorem zin_of {i : Int32} {n : Nat} (h1 : 0 ≤ i.toInt) (h2 : i.toInt < (n : Int)) : vp_in i n := vp_in_iff.mpr ⟨h1, h2⟩
theorem zclamp {i : Int32} (h1 : 0 ≤ i.toInt) : ((i.toNatClampNeg : Nat) : Int) = i.toInt := Int.toNat_of_nonneg h1
theorem zCell_i {K : zK} {ph : Bool} {gs : zG} {M : zM} {s : State} {k q : Nat} {t n : Int} {e : va_E} (h : zCell K ph gs M s k (q, t, n) (q, e)) (ht : t = 10 ∨ t = 12 ∨ t = 13) :
    ∃ (cA : ClassId) (f : Nat → Int32), e = .inl (cA, (n.toNat, .inl f)) ∧ zArr s cA (if t = 10 then .int else if t = 12 then .boolean else .byte) ∧ (∀ j : Nat, j < n.toNat → (f j).toInt = M k j) ∧ (t = 13 → ∀ j : Nat, j < n.toNat → -128 ≤ M k j ∧ M k j < 128) := by
  have h := h.2
  dsimp only at h
  rw [if_pos ht] at h
  exact h
theorem zCell_l {K : zK} {ph : Bool} {gs : zG} {M : zM} {s : State} {k q : Nat} {n : Int} {e : va_E} (h : zCell K ph gs M s k (q, 11, n) (q, e)) :
    ∃ (cA : ClassId) (f : Nat → Int64), e = .inl (cA, (n.toNat, .inr (.inl f))) ∧ zArr s cA .long ∧ ∀ j : Nat, j < n.toNat → (f j).toInt = M k j := by
  have h := h.2
  dsimp only at h
  rw [if_neg (by omega), if_pos rfl] at h
  exact h
theorem zCell_q {K : zK} {ph : Bool} {gs : zG} {M : zM} {s : State} {k q : Nat} {t n : Int} {e : va_E} (h : zCell K ph gs M s k (q, t, n) (q, e)) (ht : t = 14 ∨ t = 15) :
    ∃ (cA : ClassId) (f : Nat → Option Nat), e = .inl (cA, (n.toNat, .inr (.inr (.inr (.inr f))))) ∧ zArr s cA (.object (zAel t)) ∧ ∀ j : Nat, j < n.toNat → 0 < M k j → ∃ q kk : Nat, M k j = kk ∧ gs[kk]? = some (q, zAtg t, 0) ∧ f j = some q := by
  have h := h.2
  dsimp only at h
  rw [if_neg (by omega), if_neg (by omega), if_pos ht] at h
  exact h
theorem zCell_mki {K : zK} {ph : Bool} {gs : zG} {M : zM} {s : State} {k q : Nat} {t n : Int} {cA : ClassId} {f : Nat → Int32} (ht : t = 10 ∨ t = 12 ∨ t = 13) (h1 : zArr s cA (if t = 10 then .int else if t = 12 then .boolean else .byte)) (h2 : ∀ j : Nat, j < n.toNat → (f j).toInt = M k j) (h3 : t = 13 → ∀ j : Nat, j < n.toNat → -128 ≤ M k j ∧ M k j < 128) :
    zCell K ph gs M s k (q, t, n) (q, .inl (cA, (n.toNat, .inl f))) := by
  refine ⟨rfl, ?_⟩
  dsimp only
  rw [if_pos ht]
  exact ⟨cA, f, rfl, h1, h2, h3⟩
theorem zCell_mkl {K : zK} {ph : Bool} {gs : zG} {M : zM} {s : State} {k q : Nat} {n : Int} {cA : ClassId} {f : Nat → Int64} (h1 : zArr s cA .long) (h2 : ∀ j : Nat, j < n.toNat → (f j).toInt = M k j) :
    zCell K ph gs M s k (q, 11, n) (q, .inl (cA, (n.toNat, .inr (.inl f)))) := by
  refine ⟨rfl, ?_⟩
  dsimp only
  rw [if_neg (by omega), if_pos rfl]
  exact ⟨cA, f, rfl, h1, h2⟩
theorem zCell_mkq {K : zK} {ph : Bool} {gs : zG} {M : zM} {s : State} {k q : Nat} {t n : Int} {cA : ClassId} {f : Nat → Option Nat} (ht : t = 14 ∨ t = 15) (h1 : zArr s cA (.object (zAel t))) (h2 : ∀ j : Nat, j < n.toNat → 0 < M k j → ∃ q kk : Nat, M k j = kk ∧ gs[kk]? = some (q, zAtg t, 0) ∧ f j = some q) :
    zCell K ph gs M s k (q, t, n) (q, .inl (cA, (n.toNat, .inr (.inr (.inr (.inr f)))))) := by
  refine ⟨rfl, ?_⟩
  dsimp only
  rw [if_neg (by omega), if_neg (by omega), if_pos ht]
  exact ⟨cA, f, rfl, h1, h2⟩
theorem zlen32 (n : Nat) (h : n < 2 ^ 31) : (Int32.ofNat n).toInt = (n : Int) := nI_toInt h
/-- how long a text is -/
theorem zstl_len : ∀ k : Fin 8, zstl.getD k.val 0 = (zstr.getD k.val []).length ∧ zstl.getD k.val 0 < 100 := by decide +kernel
theorem zs_alen {p : Program} {l : Launch} {e : Env} {R : Room} {s : State} {m : MethodId} {args : Array Value} {below : List Frame} {meth : Method} {c : Code} {Q : State → Prop} {K : zK} {ph : Bool} {c0 s0 : Int} {gs : zG} {own nm : String} {cc : ByteArray} {pc : Nat} {L st : List zV} {M : zM} {st' : List zV} (hC : zCtx K own nm cc p s m args meth c) (hdg : decode cc pc = .ok (.arraylength, 1)) (hs : zF4_n st = some st') (hk : zGo p l e R s m args below meth c Q K ph c0 s0 gs (pc + 1) L st' M) : zGo p l e R s m args below meth c Q K ph c0 s0 gs pc L st M := by
  unfold zF4_n at hs
  split at hs
  · rename_i t a n st
    split at hs
    · rename_i ht
      cases hs
      intro ls rst H locs b0 b1 b2 b3 b4
      obtain ⟨rv, rst, rfl, hv, b2a⟩ := zVRs_cons b2
      obtain ⟨-, -, ⟨-, g5⟩, ⟨-, g6⟩, ⟨-, g7⟩, ⟨-, g8⟩, -, -, g9, -, g16, g16b, g16c, g16d⟩ := hC.2.2.2.2.2.1
      by_cases hst : (4 ≤ t ∧ t < 10) ∨ t = 16
      · obtain ⟨rfl, w2, w3⟩ := zVR_stat hv hst
        have w3 := w3 (by omega)
        subst w3
        rcases (show t = 5 ∨ t = 6 ∨ t = 7 ∨ t = 9 ∨ t = 16 by omega) with rfl | rfl | rfl | rfl | rfl
        · have : a = 0 := by simpa [zrng] using w2
          subst this
          refine va_tlen hC.1 hC.2.1 g5 b4 rfl hdg ?_
          exact hk ls (_ :: rst) H locs b0 b1 ⟨zVR_mki _ rfl, b2a⟩ b3 b4
        · have : a = 0 := by simpa [zrng] using w2
          subst this
          refine va_tlen hC.1 hC.2.1 g6 b4 rfl hdg ?_
          exact hk ls (_ :: rst) H locs b0 b1 ⟨zVR_mki _ rfl, b2a⟩ b3 b4
        · have : 0 ≤ a ∧ a < 2 := by simpa [zrng] using w2
          rcases (show a = 0 ∨ a = 1 by omega) with rfl | rfl
          · refine va_tlen hC.1 hC.2.1 g7 b4 rfl hdg ?_
            exact hk ls (_ :: rst) H locs b0 b1 ⟨zVR_mki _ rfl, b2a⟩ b3 b4
          · refine va_tlen hC.1 hC.2.1 g8 b4 rfl hdg ?_
            exact hk ls (_ :: rst) H locs b0 b1 ⟨zVR_mki _ rfl, b2a⟩ b3 b4
        · have w2 : 0 ≤ a ∧ a < 8 := by simpa [zrng] using w2
          obtain ⟨-, -, -, g3⟩ := g9.1 a.toNat (by omega)
          dsimp only at g3
          rw [show ((a.toNat : Nat) : Int) = a by omega] at g3
          refine va_tlen hC.1 hC.2.1 g3 b4 rfl hdg ?_
          obtain ⟨q1, q2⟩ := zstl_len ⟨a.toNat, by omega⟩
          dsimp only at q1 q2
          refine hk ls (_ :: rst) H locs b0 b1 ⟨zVR_mki _ ?_, b2a⟩ b3 b4
          rw [zlen32 _ (by omega), q1]
          rfl
        · have : a = -2 := by simpa [zrng] using w2
          subst this
          refine va_slen hC.1 hC.2.1 g16 g16b g16c b4 hdg ?_
          refine hk ls (_ :: rst) H locs b0 b1 ⟨zVR_mki _ ?_, b2a⟩ b3 b4
          rw [zlen32 _ (by omega)]
          rfl
      · obtain ⟨k, q, rfl, hg, rfl⟩ := zVR_cell hv (by omega) (by omega) (by omega)
        obtain ⟨z1, z2, ws, hP, hD, hR⟩ := id b3
        obtain ⟨E, hws, hcell⟩ := zRel_cell hR hg
        obtain ⟨hn0, hn1⟩ := hR.2.1 k _ hg
        dsimp only at hn0 hn1
        have fin : ∀ (cA : ClassId) (x : vp_A) (ty : FieldType), E = .inl (cA, x) → x.1 = n.toNat → zArr s cA ty → W p l e R s m args below meth c H locs (M (-1) 1 - c0).toNat (M (-1) 2 - s0).toNat Q (F0 m pc ls (.ref q :: rst)) := by
          intro cA x ty hE hx hA
          subst hE
          refine va_alen hC.1 hC.2.1 (zK1 hC.2.2.2.2.1 hA) hP k 0 hws rfl rfl hdg ?_
          refine hk ls (_ :: rst) H locs b0 b1 ⟨zVR_mki _ ?_, b2a⟩ b3 b4
          rw [hx, zlen32 _ (by omega)]
          omega
        by_cases e1 : t = 10 ∨ t = 12 ∨ t = 13
        · obtain ⟨cA, f, rfl, hA, -⟩ := zCell_i hcell e1
          exact fin cA _ _ rfl rfl hA
        by_cases e2 : t = 11
        · subst e2
          obtain ⟨cA, f, rfl, hA, -⟩ := zCell_l hcell
          exact fin cA _ _ rfl rfl hA
        by_cases e3 : t = 14 ∨ t = 15
        · obtain ⟨cA, f, rfl, hA, -⟩ := zCell_q hcell e3
          exact fin cA _ _ rfl rfl hA
        · have h := hcell.2
          dsimp only at h
          rw [if_neg e1, if_neg e2, if_neg e3] at h
          obtain ⟨c', e4, -⟩ := h
          omega
    · cases hs
  · cases hs
theorem zswl_range : ∀ k : Fin 34, (Int32.ofInt (zsta 5 0 (k.val : Int))).toInt = zsta 5 0 (k.val : Int) := by decide +kernel
theorem zdig_range : ∀ k : Fin 100, (Int32.ofInt (zsta 7 0 (k.val : Int))).toInt = zsta 7 0 (k.val : Int) ∧ (Int32.ofInt (zsta 7 1 (k.val : Int))).toInt = zsta 7 1 (k.val : Int) := by decide +kernel
theorem zstb_range : ∀ k : Fin 8, ∀ j : Fin 30, j.val < zstl.getD k.val 0 → ((zstb.getD k.val []).getD j.val 0).toInt = zsta 9 (k.val : Int) (j.val : Int) := by decide +kernel
theorem zstl_30 : ∀ k : Fin 8, zstl.getD k.val 0 ≤ 30 := by decide +kernel
theorem zs_iaload {p : Program} {l : Launch} {e : Env} {R : Room} {s : State} {m : MethodId} {args : Array Value} {below : List Frame} {meth : Method} {c : Code} {Q : State → Prop} {K : zK} {ph : Bool} {c0 s0 : Int} {gs : zG} {own nm : String} {cc : ByteArray} {pc : Nat} {L st : List zV} {M : zM} {st' : List zV} (hC : zCtx K own nm cc p s m args meth c) (hdg : decode cc pc = .ok (.iaload, 1)) (hs : zF4_l 85 st M = some st') (hk : zGo p l e R s m args below meth c Q K ph c0 s0 gs (pc + 1) L st' M) : zGo p l e R s m args below meth c Q K ph c0 s0 gs pc L st M := by
  unfold zF4_l at hs
  split at hs
  · rename_i i y t a n st
    split at hs
    · rename_i hin
      rw [if_pos rfl] at hs
      intro ls rst H locs b0 b1 b2 b3 b4
      obtain ⟨ri, rst, rfl, hi, b2a⟩ := zVRs_cons b2
      obtain ⟨rv, rst, rfl, hv, b2b⟩ := zVRs_cons b2a
      obtain ⟨x, rfl, hx⟩ := zVR_i hi
      subst hx
      have hcl := zclamp hin.1
      split at hs
      · rename_i ht
        cases hs
        by_cases e10 : t = 10
        · subst e10
          obtain ⟨k, q, rfl, hg, rfl⟩ := zVR_cell hv (by omega) (by omega) (by omega)
          obtain ⟨z1, z2, ws, hP, hD, hR⟩ := id b3
          obtain ⟨E, hws, hcell⟩ := zRel_cell hR hg
          obtain ⟨cA, f, rfl, hA, hf, -⟩ := zCell_i hcell (Or.inl rfl)
          refine va_iald hC.1 hC.2.1 (zK1 hC.2.2.2.2.1 hA) hP k 0 hws rfl (zin_of hin.1 (by omega)) hdg ?_
          refine hk ls (_ :: rst) H locs b0 b1 ⟨zVR_mki _ ?_, b2b⟩ b3 b4
          rw [hf _ (by omega), hcl]
        · have e16 : t = 16 := by omega
          subst e16
          obtain ⟨rfl, w2, w3⟩ := zVR_stat hv (by omega)
          have : a = -2 := by simpa [zrng] using w2
          subst this
          have w3 : n = zL K := by simpa [zlenS] using w3
          obtain ⟨-, -, -, -, -, -, -, -, -, -, g16, g16b, g16c, g16d⟩ := hC.2.2.2.2.2.1
          refine va_sld hC.1 hC.2.1 g16 g16b g16c b4 (zin_of hin.1 (by omega)) hdg ?_
          refine hk ls (_ :: rst) H locs b0 b1 ⟨zVR_mki _ ?_, b2b⟩ b3 b4
          rw [← hcl]
          exact (b3.2.1 _ (by omega)).symm
      · split at hs
        · rename_i e5
          subst e5
          cases hs
          obtain ⟨rfl, w2, w3⟩ := zVR_stat hv (by omega)
          have : a = 0 := by simpa [zrng] using w2
          subst this
          have w3 : n = 34 := by simpa [zlenS] using w3
          obtain ⟨-, -, ⟨-, g5⟩, -⟩ := hC.2.2.2.2.2.1
          refine va_ti hC.1 hC.2.1 g5 b4 (zin_of hin.1 (by omega)) rfl hdg ?_
          refine hk ls (_ :: rst) H locs b0 b1 ⟨zVR_mki _ ?_, b2b⟩ b3 b4
          have := zswl_range ⟨x.toNatClampNeg, by omega⟩
          dsimp only at this
          rw [hcl] at this ⊢
          exact this
        · cases hs
    · cases hs
  · cases hs
theorem zs_laload {p : Program} {l : Launch} {e : Env} {R : Room} {s : State} {m : MethodId} {args : Array Value} {below : List Frame} {meth : Method} {c : Code} {Q : State → Prop} {K : zK} {ph : Bool} {c0 s0 : Int} {gs : zG} {own nm : String} {cc : ByteArray} {pc : Nat} {L st : List zV} {M : zM} {st' : List zV} (hC : zCtx K own nm cc p s m args meth c) (hdg : decode cc pc = .ok (.laload, 1)) (hs : zF4_l 86 st M = some st') (hk : zGo p l e R s m args below meth c Q K ph c0 s0 gs (pc + 1) L st' M) : zGo p l e R s m args below meth c Q K ph c0 s0 gs pc L st M := by
  unfold zF4_l at hs
  split at hs
  · rename_i i y t a n st
    split at hs
    · rename_i hin
      rw [if_neg (by omega), if_pos rfl] at hs
      intro ls rst H locs b0 b1 b2 b3 b4
      obtain ⟨ri, rst, rfl, hi, b2a⟩ := zVRs_cons b2
      obtain ⟨rv, rst, rfl, hv, b2b⟩ := zVRs_cons b2a
      obtain ⟨x, rfl, hx⟩ := zVR_i hi
      subst hx
      have hcl := zclamp hin.1
      split at hs
      · rename_i ht
        cases hs
        subst ht
        obtain ⟨k, q, rfl, hg, rfl⟩ := zVR_cell hv (by omega) (by omega) (by omega)
        obtain ⟨z1, z2, ws, hP, hD, hR⟩ := id b3
        obtain ⟨E, hws, hcell⟩ := zRel_cell hR hg
        obtain ⟨cA, f, rfl, hA, hf⟩ := zCell_l hcell
        refine va_lald hC.1 hC.2.1 (zK1 hC.2.2.2.2.1 hA) hP k 0 hws rfl (zin_of hin.1 (by omega)) hdg ?_
        refine hk ls (_ :: rst) H locs b0 b1 ⟨zVR_mkl _ ?_, b2b⟩ b3 b4
        rw [hf _ (by omega), hcl]
      · cases hs
    · cases hs
  · cases hs
theorem zs_baload {p : Program} {l : Launch} {e : Env} {R : Room} {s : State} {m : MethodId} {args : Array Value} {below : List Frame} {meth : Method} {c : Code} {Q : State → Prop} {K : zK} {ph : Bool} {c0 s0 : Int} {gs : zG} {own nm : String} {cc : ByteArray} {pc : Nat} {L st : List zV} {M : zM} {st' : List zV} (hC : zCtx K own nm cc p s m args meth c) (hdg : decode cc pc = .ok (.baload, 1)) (hs : zF4_l 87 st M = some st') (hk : zGo p l e R s m args below meth c Q K ph c0 s0 gs (pc + 1) L st' M) : zGo p l e R s m args below meth c Q K ph c0 s0 gs pc L st M := by
  unfold zF4_l at hs
  split at hs
  · rename_i i y t a n st
    split at hs
    · rename_i hin
      rw [if_neg (by omega), if_neg (by omega), if_pos rfl] at hs
      intro ls rst H locs b0 b1 b2 b3 b4
      obtain ⟨ri, rst, rfl, hi, b2a⟩ := zVRs_cons b2
      obtain ⟨rv, rst, rfl, hv, b2b⟩ := zVRs_cons b2a
      obtain ⟨x, rfl, hx⟩ := zVR_i hi
      subst hx
      have hcl := zclamp hin.1
      split at hs
      · rename_i ht
        cases hs
        obtain ⟨k, q, rfl, hg, rfl⟩ := zVR_cell hv (by omega) (by omega) (by omega)
        obtain ⟨z1, z2, ws, hP, hD, hR⟩ := id b3
        obtain ⟨E, hws, hcell⟩ := zRel_cell hR hg
        obtain ⟨cA, f, rfl, hA, hf, -⟩ := zCell_i hcell (Or.inr ht)
        rcases ht with rfl | rfl
        · refine va_zald hC.1 hC.2.1 (zK1 hC.2.2.2.2.1 hA) hP k 0 hws rfl (zin_of hin.1 (by omega)) hdg ?_
          refine hk ls (_ :: rst) H locs b0 b1 ⟨zVR_mki _ ?_, b2b⟩ b3 b4
          rw [hf _ (by omega), hcl]
        · refine va_bald hC.1 hC.2.1 (zK1 hC.2.2.2.2.1 hA) hP k 0 hws rfl (zin_of hin.1 (by omega)) hdg ?_
          refine hk ls (_ :: rst) H locs b0 b1 ⟨zVR_mki _ ?_, b2b⟩ b3 b4
          rw [hf _ (by omega), hcl]
      · split at hs
        · rename_i e79
          cases hs
          obtain ⟨rfl, w2, w3⟩ := zVR_stat hv (by omega)
          obtain ⟨-, -, -, -, ⟨-, g7⟩, ⟨-, g8⟩, -, -, g9, -⟩ := hC.2.2.2.2.2.1
          rcases e79 with rfl | rfl
          · have w2 : 0 ≤ a ∧ a < 2 := by simpa [zrng] using w2
            have w3 : n = 100 := by simpa [zlenS] using w3
            have h9 := zdig_range ⟨x.toNatClampNeg, by omega⟩
            dsimp only at h9
            rcases (show a = 0 ∨ a = 1 by omega) with rfl | rfl
            · refine va_tb hC.1 hC.2.1 g7 b4 (zin_of hin.1 (by omega)) rfl hdg ?_
              refine hk ls (_ :: rst) H locs b0 b1 ⟨zVR_mki _ ?_, b2b⟩ b3 b4
              rw [hcl] at h9 ⊢
              exact h9.1
            · refine va_tb hC.1 hC.2.1 g8 b4 (zin_of hin.1 (by omega)) rfl hdg ?_
              refine hk ls (_ :: rst) H locs b0 b1 ⟨zVR_mki _ ?_, b2b⟩ b3 b4
              rw [hcl] at h9 ⊢
              exact h9.2
          · have w2 : 0 ≤ a ∧ a < 8 := by simpa [zrng] using w2
            obtain ⟨-, -, -, g3⟩ := g9.1 a.toNat (by omega)
            dsimp only at g3
            rw [show ((a.toNat : Nat) : Int) = a by omega] at g3
            have q1 := (zstl_len ⟨a.toNat, by omega⟩).1
            have q3 := zstl_30 ⟨a.toNat, by omega⟩
            have w3 := w3 (by omega)
            have w4 : n = ((zstr.getD a.toNat []).length : Int) := w3
            dsimp only at q1 q3
            refine va_tb hC.1 hC.2.1 g3 b4 (zin_of hin.1 (by omega)) rfl hdg ?_
            refine hk ls (_ :: rst) H locs b0 b1 ⟨zVR_mki _ ?_, b2b⟩ b3 b4
            have h9 := zstb_range ⟨a.toNat, by omega⟩ ⟨x.toNatClampNeg, by omega⟩ (by dsimp only; omega)
            dsimp only at h9
            rw [hcl, show ((a.toNat : Nat) : Int) = a by omega] at h9
            exact h9
        · cases hs
    · cases hs
  · cases hs
theorem zs_aaload {p : Program} {l : Launch} {e : Env} {R : Room} {s : State} {m : MethodId} {args : Array Value} {below : List Frame} {meth : Method} {c : Code} {Q : State → Prop} {K : zK} {ph : Bool} {c0 s0 : Int} {gs : zG} {own nm : String} {cc : ByteArray} {pc : Nat} {L st : List zV} {M : zM} {st' : List zV} (hC : zCtx K own nm cc p s m args meth c) (hdg : decode cc pc = .ok (.aaload, 1)) (hs : zF4_l 88 st M = some st') (hk : zGo p l e R s m args below meth c Q K ph c0 s0 gs (pc + 1) L st' M) : zGo p l e R s m args below meth c Q K ph c0 s0 gs pc L st M := by
  unfold zF4_l at hs
  split at hs
  · rename_i i y t a n st
    split at hs
    · rename_i hin
      rw [if_neg (by omega), if_neg (by omega), if_neg (by omega)] at hs
      intro ls rst H locs b0 b1 b2 b3 b4
      obtain ⟨ri, rst, rfl, hi, b2a⟩ := zVRs_cons b2
      obtain ⟨rv, rst, rfl, hv, b2b⟩ := zVRs_cons b2a
      obtain ⟨x, rfl, hx⟩ := zVR_i hi
      subst hx
      have hcl := zclamp hin.1
      split at hs
      · rename_i e6
        subst e6
        cases hs
        obtain ⟨rfl, w2, w3⟩ := zVR_stat hv (by omega)
        have : a = 0 := by simpa [zrng] using w2
        subst this
        have w3 : n = 34 := by simpa [zlenS] using w3
        obtain ⟨-, -, -, ⟨-, g6⟩, -⟩ := hC.2.2.2.2.2.1
        refine vb_tq hC.1 hC.2.1 g6 b4 (zin_of hin.1 (by omega)) rfl hdg ?_
        rw [hcl]
        refine hk ls (_ :: rst) H locs b0 b1 ⟨?_, b2b⟩ b3 b4
        exact zVR_mkstat (by omega) (by simp only [zrng, if_true]; omega) (fun z => absurd rfl z)
      · split at hs
        · rename_i ht
          obtain ⟨ht, hpos⟩ := ht
          cases hs
          obtain ⟨k, q, rfl, hg, rfl⟩ := zVR_cell hv (by omega) (by omega) (by omega)
          obtain ⟨z1, z2, ws, hP, hD, hR⟩ := id b3
          obtain ⟨E, hws, hcell⟩ := zRel_cell hR hg
          obtain ⟨cA, f, rfl, hA, hf⟩ := zCell_q hcell ht
          obtain ⟨q', kk, a1, a2, a3⟩ := hf x.toNatClampNeg (by omega) (by rw [hcl]; exact hpos)
          refine va_aldq hC.1 hC.2.1 (zK1 hC.2.2.2.2.1 hA) hP k 0 hws rfl (zin_of hin.1 (by omega)) hdg ?_
          rw [a3]
          refine hk ls (_ :: rst) H locs b0 b1 ⟨?_, b2b⟩ b3 b4
          rw [hcl] at a1
          rw [a1]
          rcases ht with rfl | rfl
          · exact zVR_mkcell (by omega) (by omega) (by omega) a2
          · exact zVR_mkcell (by omega) (by omega) (by omega) a2
        · cases hs
    · cases hs
  · cases hs
