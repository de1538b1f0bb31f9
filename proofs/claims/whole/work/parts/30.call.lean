/-! calls: what a contract says, how a caller goes on -/
theorem zroom_sum {K : zK} {gs : zG} : ∀ {st : List zV} {rst : List Value}, zVRs K gs st rst → (rst.map fun v => v.category).sum ≤ 2 * st.length
  | [], [], _ => by simp
  | [], _ :: _, h => absurd h (by simp [zVRs])
  | _ :: _, [], h => absurd h (by simp [zVRs])
  | v :: l, r :: rl, h => by
    have ih := zroom_sum h.2
    have hc := zVR_cat (t := v.1) (x := v.2.1) (n := v.2.2) h.1
    have : r.category ≤ 2 := by rw [hc]; split <;> omega
    simp only [List.map_cons, List.sum_cons, List.length_cons]
    omega
theorem zroom_len : ∀ {st : List zV}, zroom st = true → st.length ≤ 4
  | [], _ => by simp
  | [_], _ => by simp
  | [_, _], _ => by simp
  | [_, _, _], _ => by simp
  | [_, _, _, _], _ => by simp
  | _ :: _ :: _ :: _ :: _ :: _, h => by simp [zroom] at h
theorem zroom_8 {K : zK} {gs : zG} {st : List zV} {rst : List Value} (h : zVRs K gs st rst) (hz : zroom st = true) : (rst.map fun v => v.category).sum ≤ 8 := by
  have := zroom_sum h
  have := zroom_len hz
  omega
theorem zRep_moved {K : zK} {ph : Bool} {gs : zG} {M : zM} {u U : State} {H : Heap} (h : zRep K ph gs M u H) (hv : u.vm.Alike U.vm) : zRep K ph gs M U H := by
  obtain ⟨z1, z2, ws, hP, hD, hR⟩ := h
  refine ⟨z1, z2, ws, hP, hD, hR.1, hR.2.1, fun k g w hg hw => ?_⟩
  have := zCell_congr (gx := []) (M' := M) (s' := U) (hR.2.2 k g w hg hw) (fun _ => rfl) (fun cA ty z => ⟨arrOfT_moved hv z.1, z.2.moved hv⟩)
  rw [List.append_nil] at this
  exact this
def zRet (K : zK) (gs : zG) (v : zV) (rv : Option Value) : Prop := if v.1 = 98 then rv = none else ∃ r, rv = some r ∧ zVR K gs v r
def zPc (K : zK) (ph : Bool) (gs : zG) (M : zM) (avs : List Value) : Array Value → State → Prop := fun a U => a = avs.toArray ∧ zRep K ph gs M U U.heap ∧ zSt K U ∧ va_K (zD K) zcls [] U ∧ zbs K ≤ U.heap.size ∧ zNw U
def zQc (K : zK) (ph : Bool) (gs : zG) (v : zV) (M' : zM) : Array Value → State → Outcome → State → Prop := fun _ st o t => ∃ (gx : zG) (rv : Option Value), o = .returned rv ∧ zRet K (gs ++ gx) v rv ∧ zRep K ph (gs ++ gx) M' t t.heap ∧ va_F (zA K) st t
theorem zPc_blind (K : zK) (ph : Bool) (gs : zG) (M : zM) (avs : List Value) : FrameBlind (zPc K ph gs M avs) := by
  rintro a U g mk ⟨h1, h2, h3, h4, h5, h6⟩
  exact ⟨h1, zRep_moved (u := U) (U := U.calling g mk a) h2 (Vm.Alike.refl U.vm), zSt_moved (s := U) (U := U.calling g mk a) h3 (State.WarmedH.refl U) (fun _ _ _ => rfl) (Nat.le_refl _), va_K.moved (u := U) (U := U.calling g mk a) (Vm.Alike.refl U.vm) h4, h5, zNw_moved (s := U) (U := U.calling g mk a) h6 (State.WarmedH.refl U)⟩
section ZCALL
variable {p : Program} {l : Launch} {e : Env} {R : Room} {s : State} {m : MethodId} {args : Array Value} {below : List Frame} {meth : Method} {c : Code} {Q : State → Prop} {H : Heap} {locs : List Loc} {cells slots mc ms : Nat} {ls : Array Slot} {rest st0 : List Value} {K : zK} {ph : Bool} {gs : zG} {own nm : String} {cc : ByteArray} {pc : Nat} {M M' : zM} {v : zV} {a : Array Value}
/-- the caller's facts, as the callee wants them -/
theorem zPre (hC : zCtx K own nm cc p s m args meth c) (avs : List Value) (h3 : zRep K ph gs M s H) (h4 : va_S (zA K) s.heap H locs) : PreS s H (zPc K ph gs M avs) avs := by
  refine ⟨zPc_blind K ph gs M avs, fun U hU hW => ⟨rfl, ?_, ?_, va_K.moved hW.alike hC.2.2.2.2.1, ?_, zNw_moved (zNw_of hC.2.2.2.1) hW⟩⟩
  · rw [hU]; exact zRep_moved h3 hW.alike
  · exact zSt_moved hC.2.2.2.2.2.1 hW (fun q h1 h2 => by rw [hU]; exact h4.2.1 q h1 h2) (by rw [hU]; exact h4.1)
  · rw [hU]; exact Nat.le_trans hC.2.2.2.2.2.2.1 h4.1
theorem zcall_W (hC : zCtx K own nm cc p s m args meth c) (hr : va_Run p l e R s m args below meth c H locs cells slots mc ms (F0 m pc ls st0) rest (zQc K ph gs v M' a) (zA K)) (hS : va_S (zA K) s.heap H locs)
    (kk : ∀ (gx : zG) (rv : Option Value) (H1 : Heap) (locs1 : List Loc), zRet K (gs ++ gx) v rv → zRep K ph (gs ++ gx) M' s H1 → va_S (zA K) s.heap H1 locs1 → W p l e R s m args below meth c H1 locs1 (cells + mc) (slots + ms) Q (F0 m (pc + 3) ls (rv.toList ++ rest))) :
    W p l e R s m args below meth c H locs cells slots Q (F0 m pc ls st0) := by
  intro T hT X
  obtain ⟨v', st₀, t, T', L, h0, X', hL, e1, e2, ⟨gx, rv, hv, hret, hrep, hz, hk⟩, st⟩ := hr T hT X
  cases hv
  rw [h0] at hz hk
  have hal : s.vm.Alike t.vm := by rw [← e2]; exact X'.warmed.alike
  obtain ⟨t2, a1, b1⟩ := kk gx v' T'.heap (locs ++ L) hret (by rw [e1]; exact zRep_moved hrep hal.symm)
    ⟨Nat.le_trans hS.1 (by rw [e1]; exact hz), fun q h1 h2 => by rw [e1, hk q (Nat.lt_of_lt_of_le h1 hS.1) h2]; exact hS.2.1 q h1 h2, fun q hq => by
      rcases List.mem_append.mp hq with h | h
      · exact hS.2.2 q h
      · exact hL q h⟩ T' rfl X'
  exact ⟨t2, st t2 a1, b1⟩
end ZCALL
/-! members of the library with a law of their own -/
theorem zs_max {p : Program} {l : Launch} {e : Env} {R : Room} {s : State} {m : MethodId} {args : Array Value} {below : List Frame} {meth : Method} {c : Code} {Q : State → Prop} {K : zK} {ph : Bool} {c0 s0 : Int} {gs : zG} {own nm : String} {cc : ByteArray} {pc : Nat} {L st : List zV} {M : zM} {i : Nat} {st' : List zV} (hC : zCtx K own nm cc p s m args meth c) (hRm : 1 ≤ R.frames ∧ 60 ≤ R.locals) (hcl : (M (-1) 1 - c0).toNat ≤ R.cells ∧ (M (-1) 2 - s0).toNat ≤ R.slots) (hdg : decode cc pc = .ok (.invokestatic i, 3))
    (hw : Cond.methodLink own i Lib.Math.max.name ∈ zwl ∧ Cond.static Lib.Math.max.name ∈ zwl ∧ Cond.initialized "java/lang/Math" ∈ zwl ∧ Cond.code Lib.Math.max.name Lib.Math.max.code 2 (some .int) ∈ zwl)
    (hs : zF6_m 71 st = some st') (hk : zGo p l e R s m args below meth c Q K ph c0 s0 gs (pc + 3) L st' M) : zGo p l e R s m args below meth c Q K ph c0 s0 gs pc L st M := by
  unfold zF6_m at hs
  split at hs
  · rename_i b y a x st
    split at hs
    · rename_i hz
      cases hs
      intro ls rst H locs b0 b1 b2 b3 b4
      obtain ⟨rv, rst, rfl, hv, b2a⟩ := zVRs_cons b2
      obtain ⟨rw', rst, rfl, hw', b2b⟩ := zVRs_cons b2a
      obtain ⟨j, rfl, hj⟩ := zVR_i hv
      obtain ⟨i', rfl, hi⟩ := zVR_i hw'
      have h8 := zroom_8 b2b hz
      refine va_mmax hC.1 hC.2.1 b0.symm hC.2.2.1 (hC.2.2.2.1 _ hw.1) (hC.2.2.2.1 _ hw.2.1) (hC.2.2.2.1 _ hw.2.2.1) (hC.2.2.2.1 _ hw.2.2.2) hRm.1 (by omega) hcl.1 hcl.2 hdg ?_
      refine hk ls (_ :: rst) H locs b0 b1 ⟨zVR_mki _ ?_, b2b⟩ b3 b4
      subst hi; subst hj
      rw [if_pos rfl]
      by_cases h : i' < j
      · rw [if_pos h, if_pos (Int32.lt_iff_toInt_lt.mp h)]
      · rw [if_neg h, if_neg (fun z => h (Int32.lt_iff_toInt_lt.mpr z))]
    · cases hs
  · cases hs
theorem zs_min {p : Program} {l : Launch} {e : Env} {R : Room} {s : State} {m : MethodId} {args : Array Value} {below : List Frame} {meth : Method} {c : Code} {Q : State → Prop} {K : zK} {ph : Bool} {c0 s0 : Int} {gs : zG} {own nm : String} {cc : ByteArray} {pc : Nat} {L st : List zV} {M : zM} {i : Nat} {st' : List zV} (hC : zCtx K own nm cc p s m args meth c) (hRm : 1 ≤ R.frames ∧ 60 ≤ R.locals) (hcl : (M (-1) 1 - c0).toNat ≤ R.cells ∧ (M (-1) 2 - s0).toNat ≤ R.slots) (hdg : decode cc pc = .ok (.invokestatic i, 3))
    (hw : Cond.methodLink own i Lib.Math.min.name ∈ zwl ∧ Cond.static Lib.Math.min.name ∈ zwl ∧ Cond.initialized "java/lang/Math" ∈ zwl ∧ Cond.code Lib.Math.min.name Lib.Math.min.code 2 (some .int) ∈ zwl)
    (hs : zF6_m 72 st = some st') (hk : zGo p l e R s m args below meth c Q K ph c0 s0 gs (pc + 3) L st' M) : zGo p l e R s m args below meth c Q K ph c0 s0 gs pc L st M := by
  unfold zF6_m at hs
  split at hs
  · rename_i b y a x st
    split at hs
    · rename_i hz
      cases hs
      intro ls rst H locs b0 b1 b2 b3 b4
      obtain ⟨rv, rst, rfl, hv, b2a⟩ := zVRs_cons b2
      obtain ⟨rw', rst, rfl, hw', b2b⟩ := zVRs_cons b2a
      obtain ⟨j, rfl, hj⟩ := zVR_i hv
      obtain ⟨i', rfl, hi⟩ := zVR_i hw'
      have h8 := zroom_8 b2b hz
      refine va_mmin hC.1 hC.2.1 b0.symm hC.2.2.1 (hC.2.2.2.1 _ hw.1) (hC.2.2.2.1 _ hw.2.1) (hC.2.2.2.1 _ hw.2.2.1) (hC.2.2.2.1 _ hw.2.2.2) hRm.1 (by omega) hcl.1 hcl.2 hdg ?_
      refine hk ls (_ :: rst) H locs b0 b1 ⟨zVR_mki _ ?_, b2b⟩ b3 b4
      subst hi; subst hj
      show (if j < i' then j else i').toInt = (if j.toInt < i'.toInt then j.toInt else i'.toInt)
      by_cases h : j < i'
      · rw [if_pos h, if_pos (Int32.lt_iff_toInt_lt.mp h)]
      · rw [if_neg h, if_neg (fun z => h (Int32.lt_iff_toInt_lt.mpr z))]
    · cases hs
  · cases hs
theorem zs_abs {p : Program} {l : Launch} {e : Env} {R : Room} {s : State} {m : MethodId} {args : Array Value} {below : List Frame} {meth : Method} {c : Code} {Q : State → Prop} {K : zK} {ph : Bool} {c0 s0 : Int} {gs : zG} {own nm : String} {cc : ByteArray} {pc : Nat} {L st : List zV} {M : zM} {i : Nat} {st' : List zV} (hC : zCtx K own nm cc p s m args meth c) (hRm : 1 ≤ R.frames ∧ 60 ≤ R.locals) (hcl : (M (-1) 1 - c0).toNat ≤ R.cells ∧ (M (-1) 2 - s0).toNat ≤ R.slots) (hdg : decode cc pc = .ok (.invokestatic i, 3))
    (hw : Cond.methodLink own i Lib.Math.abs.name ∈ zwl ∧ Cond.static Lib.Math.abs.name ∈ zwl ∧ Cond.initialized "java/lang/Math" ∈ zwl ∧ Cond.code Lib.Math.abs.name Lib.Math.abs.code 1 (some .int) ∈ zwl)
    (hs : zF6_a st = some st') (hk : zGo p l e R s m args below meth c Q K ph c0 s0 gs (pc + 3) L st' M) : zGo p l e R s m args below meth c Q K ph c0 s0 gs pc L st M := by
  unfold zF6_a at hs
  split at hs
  · rename_i a x st
    split at hs
    · rename_i hz
      cases hs
      intro ls rst H locs b0 b1 b2 b3 b4
      obtain ⟨rw', rst, rfl, hw', b2b⟩ := zVRs_cons b2
      obtain ⟨i', rfl, hi⟩ := zVR_i hw'
      have h8 := zroom_8 b2b hz
      refine va_mabs hC.1 hC.2.1 b0.symm hC.2.2.1 (hC.2.2.2.1 _ hw.1) (hC.2.2.2.1 _ hw.2.1) (hC.2.2.2.1 _ hw.2.2.1) (hC.2.2.2.1 _ hw.2.2.2) hRm.1 (by omega) hcl.1 hcl.2 hdg ?_
      refine hk ls (_ :: rst) H locs b0 b1 ⟨zVR_mki _ ?_, b2b⟩ b3 b4
      subst hi
      by_cases h : 0 ≤ i'
      · have h9 : (0 : Int) ≤ i'.toInt := Int32.le_iff_toInt_le.mp h
        rw [if_pos h, if_pos h9]
      · have h9 : ¬ (0 : Int) ≤ i'.toInt := fun z => h (Int32.le_iff_toInt_le.mpr z)
        rw [if_neg h, if_neg h9]
        exact Int32.toInt_sub 0 i'
    · cases hs
  · cases hs
theorem zs_objinit {p : Program} {l : Launch} {e : Env} {R : Room} {s : State} {m : MethodId} {args : Array Value} {below : List Frame} {meth : Method} {c : Code} {Q : State → Prop} {K : zK} {ph : Bool} {c0 s0 : Int} {gs : zG} {own nm : String} {cc : ByteArray} {pc : Nat} {L st : List zV} {M : zM} {i : Nat} {st' : List zV} (hC : zCtx K own nm cc p s m args meth c) (hRm : 1 ≤ R.frames ∧ 60 ≤ R.locals) (hdg : decode cc pc = .ok (.invokespecial i, 3))
    (hw : Cond.methodLink own i objectInit ∈ zwl ∧ Cond.instanceMethod objectInit ∈ zwl ∧ Cond.code objectInit ⟨#[0xb1]⟩ 1 none ∈ zwl)
    (hs : zF6_o st = some st') (hk : zGo p l e R s m args below meth c Q K ph c0 s0 gs (pc + 3) L st' M) : zGo p l e R s m args below meth c Q K ph c0 s0 gs pc L st M := by
  unfold zF6_o at hs
  split at hs
  · rename_i v st
    split at hs
    · rename_i hz
      cases hs
      intro ls rst H locs b0 b1 b2 b3 b4
      obtain ⟨rv, rst, rfl, hv, b2a⟩ := zVRs_cons b2
      obtain ⟨k, q, -, -, rfl⟩ := zVR_cell (t := v.1) (x := v.2.1) (n := v.2.2) hv (by omega) (by omega) (by omega)
      have h8 := zroom_8 b2a hz.1
      refine W.objInit hC.1 hC.2.1 hC.2.2.1 (hC.2.2.2.1 _ hw.1) (hC.2.2.2.1 _ hw.2.1) (hC.2.2.2.1 _ hw.2.2) rfl b0 rfl hdg hRm.1 (by
        have := lv_room (m := m) (pc := pc) (ls := ls) (rest := Value.ref q :: rst) h8
        omega) ?_
      exact hk ls rst H locs b0 b1 b2a b3 b4
    · cases hs
  · cases hs
theorem zcpy_row (M : zM) (a sp dp n : Int) {b x : Int} (h : x ≠ b) (y : Int) : zcpy M a sp b dp n x y = M x y := by simp [zcpy, h]
theorem zcpyS_row (M : zM) (a sp dp n : Int) {b x : Int} (h : x ≠ b) (y : Int) : zcpyS M a sp b dp n x y = M x y := by simp [zcpyS, h]
theorem znfw : nativeFrameWords "java/lang/System" "arraycopy" 5 + 11 ≤ 52 := by decide +kernel
theorem zfit_b {i : Int32} (h : i.toInt8.toInt32 = i) : fits .byte (.int i) = true := by
  have h1 := congrArg Int32.toInt h
  rw [Int8.toInt_toInt32] at h1
  have h2 := i.toInt8.le_toInt
  have h3 := i.toInt8.toInt_lt
  exact (znar_b (by omega) (by omega)).2
