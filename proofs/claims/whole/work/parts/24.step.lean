theorem zs_ineg {p : Program} {l : Launch} {e : Env} {R : Room} {s : State} {m : MethodId} {args : Array Value} {below : List Frame} {meth : Method} {c : Code} {Q : State → Prop} {K : zK} {ph : Bool} {c0 s0 : Int} {gs : zG} {own nm : String} {cc : ByteArray} {pc : Nat} {L st : List zV} {M : zM} {st' : List zV} (hC : zCtx K own nm cc p s m args meth c) (hdg : decode cc pc = .ok (.ineg, 1)) (hs : zF1_n st = some st') (hk : zGo p l e R s m args below meth c Q K ph c0 s0 gs (pc + 1) L st' M) :
    zGo p l e R s m args below meth c Q K ph c0 s0 gs pc L st M := by
  unfold zF1_n at hs
  split at hs
  · rename_i a x st
    cases hs
    intro ls rst H locs h0 h1 h2 h3 h4
    obtain ⟨rv, rst, rfl, hv, h2a⟩ := zVRs_cons h2
    obtain ⟨i, rfl, hi⟩ := zVR_i hv
    refine lv_ineg hC.1 hC.2.1 hdg ?_
    refine hk ls (_ :: rst) H locs h0 h1 ⟨zVR_mki _ ?_, h2a⟩ h3 h4
    subst hi
    show _ = z32 (-i.toInt)
    exact Int32.toInt_neg i
  · cases hs
theorem zs_i2l {p : Program} {l : Launch} {e : Env} {R : Room} {s : State} {m : MethodId} {args : Array Value} {below : List Frame} {meth : Method} {c : Code} {Q : State → Prop} {K : zK} {ph : Bool} {c0 s0 : Int} {gs : zG} {own nm : String} {cc : ByteArray} {pc : Nat} {L st : List zV} {M : zM} {st' : List zV} (hC : zCtx K own nm cc p s m args meth c) (hdg : decode cc pc = .ok (.i2l, 1)) (hs : zF1_c 28 st = some st') (hk : zGo p l e R s m args below meth c Q K ph c0 s0 gs (pc + 1) L st' M) :
    zGo p l e R s m args below meth c Q K ph c0 s0 gs pc L st M := by
  unfold zF1_c at hs
  split at hs
  · rename_i a x st
    cases hs
    intro ls rst H locs h0 h1 h2 h3 h4
    obtain ⟨rv, rst, rfl, hv, h2a⟩ := zVRs_cons h2
    obtain ⟨i, rfl, hi⟩ := zVR_i hv
    refine lv_i2l hC.1 hC.2.1 hdg rfl ?_
    refine hk ls (_ :: rst) H locs h0 h1 ⟨zVR_mkl _ ?_, h2a⟩ h3 h4
    subst hi
    show _ = i.toInt
    exact Int32.toInt_toInt64 i
  · cases hs
theorem zs_i2c {p : Program} {l : Launch} {e : Env} {R : Room} {s : State} {m : MethodId} {args : Array Value} {below : List Frame} {meth : Method} {c : Code} {Q : State → Prop} {K : zK} {ph : Bool} {c0 s0 : Int} {gs : zG} {own nm : String} {cc : ByteArray} {pc : Nat} {L st : List zV} {M : zM} {st' : List zV} (hC : zCtx K own nm cc p s m args meth c) (hdg : decode cc pc = .ok (.i2c, 1)) (hs : zF1_c 30 st = some st') (hk : zGo p l e R s m args below meth c Q K ph c0 s0 gs (pc + 1) L st' M) :
    zGo p l e R s m args below meth c Q K ph c0 s0 gs pc L st M := by
  unfold zF1_c at hs
  split at hs
  · rename_i a x st
    cases hs
    intro ls rst H locs h0 h1 h2 h3 h4
    obtain ⟨rv, rst, rfl, hv, h2a⟩ := zVRs_cons h2
    obtain ⟨i, rfl, hi⟩ := zVR_i hv
    refine lv_i2c hC.1 hC.2.1 hdg rfl ?_
    refine hk ls (_ :: rst) H locs h0 h1 ⟨zVR_mki _ ?_, h2a⟩ h3 h4
    subst hi
    show _ = zc16 i.toInt
    simp only [zc16, zb, Int32.ofInt_toInt]
  · cases hs
theorem zs_i2b {p : Program} {l : Launch} {e : Env} {R : Room} {s : State} {m : MethodId} {args : Array Value} {below : List Frame} {meth : Method} {c : Code} {Q : State → Prop} {K : zK} {ph : Bool} {c0 s0 : Int} {gs : zG} {own nm : String} {cc : ByteArray} {pc : Nat} {L st : List zV} {M : zM} {st' : List zV} (hC : zCtx K own nm cc p s m args meth c) (hdg : decode cc pc = .ok (.i2b, 1)) (hs : zF1_c 31 st = some st') (hk : zGo p l e R s m args below meth c Q K ph c0 s0 gs (pc + 1) L st' M) :
    zGo p l e R s m args below meth c Q K ph c0 s0 gs pc L st M := by
  unfold zF1_c at hs
  split at hs
  · rename_i a x st
    cases hs
    intro ls rst H locs h0 h1 h2 h3 h4
    obtain ⟨rv, rst, rfl, hv, h2a⟩ := zVRs_cons h2
    obtain ⟨i, rfl, hi⟩ := zVR_i hv
    refine lv_i2b hC.1 hC.2.1 hdg rfl ?_
    refine hk ls (_ :: rst) H locs h0 h1 ⟨zVR_mki _ ?_, h2a⟩ h3 h4
    subst hi
    show _ = zb8 i.toInt
    unfold zb8; rw [Int8.toInt_toInt32, Int32.toInt_toInt8]
  · cases hs
theorem zs_l2i {p : Program} {l : Launch} {e : Env} {R : Room} {s : State} {m : MethodId} {args : Array Value} {below : List Frame} {meth : Method} {c : Code} {Q : State → Prop} {K : zK} {ph : Bool} {c0 s0 : Int} {gs : zG} {own nm : String} {cc : ByteArray} {pc : Nat} {L st : List zV} {M : zM} {st' : List zV} (hC : zCtx K own nm cc p s m args meth c) (hdg : decode cc pc = .ok (.l2i, 1)) (hs : zF1_li st = some st') (hk : zGo p l e R s m args below meth c Q K ph c0 s0 gs (pc + 1) L st' M) :
    zGo p l e R s m args below meth c Q K ph c0 s0 gs pc L st M := by
  unfold zF1_li at hs
  split at hs
  · rename_i a x st
    cases hs
    intro ls rst H locs h0 h1 h2 h3 h4
    obtain ⟨rv, rst, rfl, hv, h2a⟩ := zVRs_cons h2
    obtain ⟨i, rfl, hi⟩ := zVR_l hv
    refine lv_l2i hC.1 hC.2.1 hdg rfl ?_
    refine hk ls (_ :: rst) H locs h0 h1 ⟨zVR_mki _ ?_, h2a⟩ h3 h4
    subst hi
    show _ = z32 i.toInt
    exact Int64.toInt_toInt32 i
  · cases hs
theorem zs_lcmp {p : Program} {l : Launch} {e : Env} {R : Room} {s : State} {m : MethodId} {args : Array Value} {below : List Frame} {meth : Method} {c : Code} {Q : State → Prop} {K : zK} {ph : Bool} {c0 s0 : Int} {gs : zG} {own nm : String} {cc : ByteArray} {pc : Nat} {L st : List zV} {M : zM} {st' : List zV} (hC : zCtx K own nm cc p s m args meth c) (hdg : decode cc pc = .ok (.lcmp, 1)) (hs : zF1_cmp st = some st') (hk : zGo p l e R s m args below meth c Q K ph c0 s0 gs (pc + 1) L st' M) :
    zGo p l e R s m args below meth c Q K ph c0 s0 gs pc L st M := by
  unfold zF1_cmp at hs
  split at hs
  · rename_i b y a x st
    cases hs
    intro ls rst H locs h0 h1 h2 h3 h4
    obtain ⟨rv, rst, rfl, hv, h2a⟩ := zVRs_cons h2
    obtain ⟨rw', rst, rfl, hw, h2b⟩ := zVRs_cons h2a
    obtain ⟨j, rfl, hj⟩ := zVR_l hv
    obtain ⟨i, rfl, hi⟩ := zVR_l hw
    refine W.lcmp hC.1 hC.2.1 hdg ?_
    refine hk ls (_ :: rst) H locs h0 h1 ⟨zVR_mki _ ?_, h2b⟩ h3 h4
    subst hi; subst hj
    unfold lg_cmp zcmp
    by_cases h : i > j
    · rw [if_pos h, if_pos (Int64.lt_iff_toInt_lt.mp h)]; rfl
    · rw [if_neg h, if_neg (fun z => h (Int64.lt_iff_toInt_lt.mpr z))]
      by_cases h2 : i = j
      · rw [if_pos h2, if_pos (by rw [h2])]; rfl
      · rw [if_neg h2, if_neg (fun z => h2 (Int64.toInt_inj.mp z))]; rfl
  · cases hs
theorem zs_lshl {p : Program} {l : Launch} {e : Env} {R : Room} {s : State} {m : MethodId} {args : Array Value} {below : List Frame} {meth : Method} {c : Code} {Q : State → Prop} {K : zK} {ph : Bool} {c0 s0 : Int} {gs : zG} {own nm : String} {cc : ByteArray} {pc : Nat} {L st : List zV} {M : zM} {st' : List zV} (hC : zCtx K own nm cc p s m args meth c) (hdg : decode cc pc = .ok (.lshl, 1)) (hs : zF1_sh 34 st = some st') (hk : zGo p l e R s m args below meth c Q K ph c0 s0 gs (pc + 1) L st' M) :
    zGo p l e R s m args below meth c Q K ph c0 s0 gs pc L st M := by
  unfold zF1_sh at hs
  split at hs
  · rename_i b y a x st
    cases hs
    intro ls rst H locs h0 h1 h2 h3 h4
    obtain ⟨rv, rst, rfl, hv, h2a⟩ := zVRs_cons h2
    obtain ⟨rw', rst, rfl, hw, h2b⟩ := zVRs_cons h2a
    obtain ⟨j, rfl, hj⟩ := zVR_i hv
    obtain ⟨i, rfl, hi⟩ := zVR_l hw
    refine lv_lshl hC.1 hC.2.1 hdg rfl ?_
    refine hk ls (_ :: rst) H locs h0 h1 ⟨zVR_mkl _ ?_, h2b⟩ h3 h4
    subst hi; subst hj
    show _ = zlsl i.toInt j.toInt
    simp only [zlsl, zl, zb, Int64.ofInt_toInt, Int32.ofInt_toInt]
  · cases hs
theorem zs_lushr {p : Program} {l : Launch} {e : Env} {R : Room} {s : State} {m : MethodId} {args : Array Value} {below : List Frame} {meth : Method} {c : Code} {Q : State → Prop} {K : zK} {ph : Bool} {c0 s0 : Int} {gs : zG} {own nm : String} {cc : ByteArray} {pc : Nat} {L st : List zV} {M : zM} {st' : List zV} (hC : zCtx K own nm cc p s m args meth c) (hdg : decode cc pc = .ok (.lushr, 1)) (hs : zF1_sh 35 st = some st') (hk : zGo p l e R s m args below meth c Q K ph c0 s0 gs (pc + 1) L st' M) :
    zGo p l e R s m args below meth c Q K ph c0 s0 gs pc L st M := by
  unfold zF1_sh at hs
  split at hs
  · rename_i b y a x st
    cases hs
    intro ls rst H locs h0 h1 h2 h3 h4
    obtain ⟨rv, rst, rfl, hv, h2a⟩ := zVRs_cons h2
    obtain ⟨rw', rst, rfl, hw, h2b⟩ := zVRs_cons h2a
    obtain ⟨j, rfl, hj⟩ := zVR_i hv
    obtain ⟨i, rfl, hi⟩ := zVR_l hw
    refine lv_lushr hC.1 hC.2.1 hdg rfl ?_
    refine hk ls (_ :: rst) H locs h0 h1 ⟨zVR_mkl _ ?_, h2b⟩ h3 h4
    subst hi; subst hj
    show _ = zlus i.toInt j.toInt
    simp only [zlus, zl, zb, Int64.ofInt_toInt, Int32.ofInt_toInt]
  · cases hs
theorem zs_dup {p : Program} {l : Launch} {e : Env} {R : Room} {s : State} {m : MethodId} {args : Array Value} {below : List Frame} {meth : Method} {c : Code} {Q : State → Prop} {K : zK} {ph : Bool} {c0 s0 : Int} {gs : zG} {own nm : String} {cc : ByteArray} {pc : Nat} {L st : List zV} {M : zM} {st' : List zV} (hC : zCtx K own nm cc p s m args meth c) (hdg : decode cc pc = .ok (.dup, 1)) (hs : zF1_d 36 st = some st') (hk : zGo p l e R s m args below meth c Q K ph c0 s0 gs (pc + 1) L st' M) :
    zGo p l e R s m args below meth c Q K ph c0 s0 gs pc L st M := by
  unfold zF1_d at hs
  split at hs
  · rename_i v st
    split at hs
    · cases hs
    · rename_i hn
      cases hs
      intro ls rst H locs h0 h1 h2 h3 h4
      obtain ⟨rv, rst, rfl, hv, h2a⟩ := zVRs_cons h2
      have hcv : rv.category = 1 := by rw [zVR_cat (t := v.1) (x := v.2.1) (n := v.2.2) hv, if_neg hn]
      refine lv_dup hC.1 hC.2.1 hdg hcv ?_
      exact hk ls (_ :: _ :: rst) H locs h0 h1 ⟨hv, hv, h2a⟩ h3 h4
  · cases hs
theorem zs_pop {p : Program} {l : Launch} {e : Env} {R : Room} {s : State} {m : MethodId} {args : Array Value} {below : List Frame} {meth : Method} {c : Code} {Q : State → Prop} {K : zK} {ph : Bool} {c0 s0 : Int} {gs : zG} {own nm : String} {cc : ByteArray} {pc : Nat} {L st : List zV} {M : zM} {st' : List zV} (hC : zCtx K own nm cc p s m args meth c) (hdg : decode cc pc = .ok (.pop, 1)) (hs : zF1_d 38 st = some st') (hk : zGo p l e R s m args below meth c Q K ph c0 s0 gs (pc + 1) L st' M) :
    zGo p l e R s m args below meth c Q K ph c0 s0 gs pc L st M := by
  unfold zF1_d at hs
  split at hs
  · rename_i v st
    split at hs
    · cases hs
    · rename_i hn
      cases hs
      intro ls rst H locs h0 h1 h2 h3 h4
      obtain ⟨rv, rst, rfl, hv, h2a⟩ := zVRs_cons h2
      have hcv : rv.category = 1 := by rw [zVR_cat (t := v.1) (x := v.2.1) (n := v.2.2) hv, if_neg hn]
      refine lv_pop hC.1 hC.2.1 hdg hcv ?_
      exact hk ls rst H locs h0 h1 h2a h3 h4
  · cases hs
theorem zs_dup2 {p : Program} {l : Launch} {e : Env} {R : Room} {s : State} {m : MethodId} {args : Array Value} {below : List Frame} {meth : Method} {c : Code} {Q : State → Prop} {K : zK} {ph : Bool} {c0 s0 : Int} {gs : zG} {own nm : String} {cc : ByteArray} {pc : Nat} {L st : List zV} {M : zM} {st' : List zV} (hC : zCtx K own nm cc p s m args meth c) (hdg : decode cc pc = .ok (.dup2, 1)) (hs : zF1_dd 37 st = some st') (hk : zGo p l e R s m args below meth c Q K ph c0 s0 gs (pc + 1) L st' M) :
    zGo p l e R s m args below meth c Q K ph c0 s0 gs pc L st M := by
  unfold zF1_dd at hs
  split at hs
  · rename_i v w st
    split at hs
    · cases hs
    · rename_i hn
      cases hs
      intro ls rst H locs h0 h1 h2 h3 h4
      obtain ⟨rv, rst, rfl, hv, h2a⟩ := zVRs_cons h2
      obtain ⟨rw', rst, rfl, hw, h2b⟩ := zVRs_cons h2a
      have hcv : rv.category = 1 := by rw [zVR_cat (t := v.1) (x := v.2.1) (n := v.2.2) hv, if_neg (fun z => hn (Or.inl z))]
      have hcw : rw'.category = 1 := by rw [zVR_cat (t := w.1) (x := w.2.1) (n := w.2.2) hw, if_neg (fun z => hn (Or.inr z))]
      refine lv_dup2_11 hC.1 hC.2.1 hdg hcv hcw ?_
      exact hk ls (_ :: _ :: _ :: _ :: rst) H locs h0 h1 ⟨hv, hw, hv, hw, h2b⟩ h3 h4
  · cases hs
theorem zs_dup_x1 {p : Program} {l : Launch} {e : Env} {R : Room} {s : State} {m : MethodId} {args : Array Value} {below : List Frame} {meth : Method} {c : Code} {Q : State → Prop} {K : zK} {ph : Bool} {c0 s0 : Int} {gs : zG} {own nm : String} {cc : ByteArray} {pc : Nat} {L st : List zV} {M : zM} {st' : List zV} (hC : zCtx K own nm cc p s m args meth c) (hdg : decode cc pc = .ok (.dup_x1, 1)) (hs : zF1_dd 39 st = some st') (hk : zGo p l e R s m args below meth c Q K ph c0 s0 gs (pc + 1) L st' M) :
    zGo p l e R s m args below meth c Q K ph c0 s0 gs pc L st M := by
  unfold zF1_dd at hs
  split at hs
  · rename_i v w st
    split at hs
    · cases hs
    · rename_i hn
      cases hs
      intro ls rst H locs h0 h1 h2 h3 h4
      obtain ⟨rv, rst, rfl, hv, h2a⟩ := zVRs_cons h2
      obtain ⟨rw', rst, rfl, hw, h2b⟩ := zVRs_cons h2a
      have hcv : rv.category = 1 := by rw [zVR_cat (t := v.1) (x := v.2.1) (n := v.2.2) hv, if_neg (fun z => hn (Or.inl z))]
      have hcw : rw'.category = 1 := by rw [zVR_cat (t := w.1) (x := w.2.1) (n := w.2.2) hw, if_neg (fun z => hn (Or.inr z))]
      refine lv_dup_x1 hC.1 hC.2.1 hdg hcv hcw ?_
      exact hk ls (_ :: _ :: _ :: rst) H locs h0 h1 ⟨hv, hw, hv, h2b⟩ h3 h4
  · cases hs
theorem zs_if_eq {p : Program} {l : Launch} {e : Env} {R : Room} {s : State} {m : MethodId} {args : Array Value} {below : List Frame} {meth : Method} {c : Code} {Q : State → Prop} {K : zK} {ph : Bool} {c0 s0 : Int} {gs : zG} {own nm : String} {cc : ByteArray} {pc : Nat} {L st : List zV} {M : zM} {off : Int} {tg pc' : Nat} {st' : List zV} (hC : zCtx K own nm cc p s m args meth c) (hdg : decode cc pc = .ok (.ifCond .eq off, 3)) (ht : (pc : Int) + off = (tg : Int)) (hs : zF2_1 40 (pc + 3) tg st = some (pc', st')) (hk : zGo p l e R s m args below meth c Q K ph c0 s0 gs pc' L st' M) :
    zGo p l e R s m args below meth c Q K ph c0 s0 gs pc L st M := by
  unfold zF2_1 at hs
  split at hs
  · rename_i a x st
    cases hs
    intro ls rst H locs h0 h1 h2 h3 h4
    obtain ⟨rv, rst, rfl, hv, h2a⟩ := zVRs_cons h2
    obtain ⟨i, rfl, hi⟩ := zVR_i hv
    subst hi
    have e : ∀ q : Prop, [Decidable q] → (zcond 0 i.toInt 0 = decide q) → True := fun _ _ _ => trivial
    have hiff := (Int32.toInt_inj (x := i) (y := 0)).symm
    refine lv_if_eq hC.1 hC.2.1 hdg ht (fun cz => ?_) (fun cz => ?_)
    · have e : zcond (40 - 40) i.toInt 0 = true := decide_eq_true (hiff.mp cz)
      rw [e] at hk
      exact hk ls rst H locs h0 h1 h2a h3 h4
    · have e : zcond (40 - 40) i.toInt 0 = false := decide_eq_false (fun z => cz (hiff.mpr z))
      rw [e] at hk
      exact hk ls rst H locs h0 h1 h2a h3 h4
  · cases hs
theorem zs_icmp_eq {p : Program} {l : Launch} {e : Env} {R : Room} {s : State} {m : MethodId} {args : Array Value} {below : List Frame} {meth : Method} {c : Code} {Q : State → Prop} {K : zK} {ph : Bool} {c0 s0 : Int} {gs : zG} {own nm : String} {cc : ByteArray} {pc : Nat} {L st : List zV} {M : zM} {off : Int} {tg pc' : Nat} {st' : List zV} (hC : zCtx K own nm cc p s m args meth c) (hdg : decode cc pc = .ok (.if_icmp .eq off, 3)) (ht : (pc : Int) + off = (tg : Int)) (hs : zF2_2 46 (pc + 3) tg st = some (pc', st')) (hk : zGo p l e R s m args below meth c Q K ph c0 s0 gs pc' L st' M) :
    zGo p l e R s m args below meth c Q K ph c0 s0 gs pc L st M := by
  unfold zF2_2 at hs
  split at hs
  · rename_i b y a x st
    cases hs
    intro ls rst H locs h0 h1 h2 h3 h4
    obtain ⟨rv, rst, rfl, hv, h2a⟩ := zVRs_cons h2
    obtain ⟨rw', rst, rfl, hw, h2b⟩ := zVRs_cons h2a
    obtain ⟨j, rfl, hj⟩ := zVR_i hv
    obtain ⟨i, rfl, hi⟩ := zVR_i hw
    subst hi; subst hj
    have hiff := (Int32.toInt_inj (x := i) (y := j)).symm
    refine lv_icmp_eq hC.1 hC.2.1 hdg ht (fun cz => ?_) (fun cz => ?_)
    · have e : zcond (46 - 46) i.toInt j.toInt = true := decide_eq_true (hiff.mp cz)
      rw [e] at hk
      exact hk ls rst H locs h0 h1 h2b h3 h4
    · have e : zcond (46 - 46) i.toInt j.toInt = false := decide_eq_false (fun z => cz (hiff.mpr z))
      rw [e] at hk
      exact hk ls rst H locs h0 h1 h2b h3 h4
  · cases hs
theorem zs_if_ne {p : Program} {l : Launch} {e : Env} {R : Room} {s : State} {m : MethodId} {args : Array Value} {below : List Frame} {meth : Method} {c : Code} {Q : State → Prop} {K : zK} {ph : Bool} {c0 s0 : Int} {gs : zG} {own nm : String} {cc : ByteArray} {pc : Nat} {L st : List zV} {M : zM} {off : Int} {tg pc' : Nat} {st' : List zV} (hC : zCtx K own nm cc p s m args meth c) (hdg : decode cc pc = .ok (.ifCond .ne off, 3)) (ht : (pc : Int) + off = (tg : Int)) (hs : zF2_1 41 (pc + 3) tg st = some (pc', st')) (hk : zGo p l e R s m args below meth c Q K ph c0 s0 gs pc' L st' M) :
    zGo p l e R s m args below meth c Q K ph c0 s0 gs pc L st M := by
  unfold zF2_1 at hs
  split at hs
  · rename_i a x st
    cases hs
    intro ls rst H locs h0 h1 h2 h3 h4
    obtain ⟨rv, rst, rfl, hv, h2a⟩ := zVRs_cons h2
    obtain ⟨i, rfl, hi⟩ := zVR_i hv
    subst hi
    have e : ∀ q : Prop, [Decidable q] → (zcond 1 i.toInt 0 = decide q) → True := fun _ _ _ => trivial
    have hiff := not_congr (Int32.toInt_inj (x := i) (y := 0)).symm
    refine lv_if_ne hC.1 hC.2.1 hdg ht (fun cz => ?_) (fun cz => ?_)
    · have e : zcond (41 - 40) i.toInt 0 = true := decide_eq_true (hiff.mp cz)
      rw [e] at hk
      exact hk ls rst H locs h0 h1 h2a h3 h4
    · have e : zcond (41 - 40) i.toInt 0 = false := decide_eq_false (fun z => (hiff.mpr z) cz)
      rw [e] at hk
      exact hk ls rst H locs h0 h1 h2a h3 h4
  · cases hs
theorem zs_icmp_ne {p : Program} {l : Launch} {e : Env} {R : Room} {s : State} {m : MethodId} {args : Array Value} {below : List Frame} {meth : Method} {c : Code} {Q : State → Prop} {K : zK} {ph : Bool} {c0 s0 : Int} {gs : zG} {own nm : String} {cc : ByteArray} {pc : Nat} {L st : List zV} {M : zM} {off : Int} {tg pc' : Nat} {st' : List zV} (hC : zCtx K own nm cc p s m args meth c) (hdg : decode cc pc = .ok (.if_icmp .ne off, 3)) (ht : (pc : Int) + off = (tg : Int)) (hs : zF2_2 47 (pc + 3) tg st = some (pc', st')) (hk : zGo p l e R s m args below meth c Q K ph c0 s0 gs pc' L st' M) :
    zGo p l e R s m args below meth c Q K ph c0 s0 gs pc L st M := by
  unfold zF2_2 at hs
  split at hs
  · rename_i b y a x st
    cases hs
    intro ls rst H locs h0 h1 h2 h3 h4
    obtain ⟨rv, rst, rfl, hv, h2a⟩ := zVRs_cons h2
    obtain ⟨rw', rst, rfl, hw, h2b⟩ := zVRs_cons h2a
    obtain ⟨j, rfl, hj⟩ := zVR_i hv
    obtain ⟨i, rfl, hi⟩ := zVR_i hw
    subst hi; subst hj
    have hiff := not_congr (Int32.toInt_inj (x := i) (y := j)).symm
    refine lv_icmp_ne hC.1 hC.2.1 hdg ht (fun cz => ?_) (fun cz => ?_)
    · have e : zcond (47 - 46) i.toInt j.toInt = true := decide_eq_true (hiff.mp cz)
      rw [e] at hk
      exact hk ls rst H locs h0 h1 h2b h3 h4
    · have e : zcond (47 - 46) i.toInt j.toInt = false := decide_eq_false (fun z => (hiff.mpr z) cz)
      rw [e] at hk
      exact hk ls rst H locs h0 h1 h2b h3 h4
  · cases hs
theorem zs_if_lt {p : Program} {l : Launch} {e : Env} {R : Room} {s : State} {m : MethodId} {args : Array Value} {below : List Frame} {meth : Method} {c : Code} {Q : State → Prop} {K : zK} {ph : Bool} {c0 s0 : Int} {gs : zG} {own nm : String} {cc : ByteArray} {pc : Nat} {L st : List zV} {M : zM} {off : Int} {tg pc' : Nat} {st' : List zV} (hC : zCtx K own nm cc p s m args meth c) (hdg : decode cc pc = .ok (.ifCond .lt off, 3)) (ht : (pc : Int) + off = (tg : Int)) (hs : zF2_1 42 (pc + 3) tg st = some (pc', st')) (hk : zGo p l e R s m args below meth c Q K ph c0 s0 gs pc' L st' M) :
    zGo p l e R s m args below meth c Q K ph c0 s0 gs pc L st M := by
  unfold zF2_1 at hs
  split at hs
  · rename_i a x st
    cases hs
    intro ls rst H locs h0 h1 h2 h3 h4
    obtain ⟨rv, rst, rfl, hv, h2a⟩ := zVRs_cons h2
    obtain ⟨i, rfl, hi⟩ := zVR_i hv
    subst hi
    have e : ∀ q : Prop, [Decidable q] → (zcond 2 i.toInt 0 = decide q) → True := fun _ _ _ => trivial
    have hiff := Int32.lt_iff_toInt_lt (x := i) (y := 0)
    refine lv_if_lt hC.1 hC.2.1 hdg ht (fun cz => ?_) (fun cz => ?_)
    · have e : zcond (42 - 40) i.toInt 0 = true := decide_eq_true (hiff.mp cz)
      rw [e] at hk
      exact hk ls rst H locs h0 h1 h2a h3 h4
    · have e : zcond (42 - 40) i.toInt 0 = false := decide_eq_false (fun z => cz (hiff.mpr z))
      rw [e] at hk
      exact hk ls rst H locs h0 h1 h2a h3 h4
  · cases hs
theorem zs_icmp_lt {p : Program} {l : Launch} {e : Env} {R : Room} {s : State} {m : MethodId} {args : Array Value} {below : List Frame} {meth : Method} {c : Code} {Q : State → Prop} {K : zK} {ph : Bool} {c0 s0 : Int} {gs : zG} {own nm : String} {cc : ByteArray} {pc : Nat} {L st : List zV} {M : zM} {off : Int} {tg pc' : Nat} {st' : List zV} (hC : zCtx K own nm cc p s m args meth c) (hdg : decode cc pc = .ok (.if_icmp .lt off, 3)) (ht : (pc : Int) + off = (tg : Int)) (hs : zF2_2 48 (pc + 3) tg st = some (pc', st')) (hk : zGo p l e R s m args below meth c Q K ph c0 s0 gs pc' L st' M) :
    zGo p l e R s m args below meth c Q K ph c0 s0 gs pc L st M := by
  unfold zF2_2 at hs
  split at hs
  · rename_i b y a x st
    cases hs
    intro ls rst H locs h0 h1 h2 h3 h4
    obtain ⟨rv, rst, rfl, hv, h2a⟩ := zVRs_cons h2
    obtain ⟨rw', rst, rfl, hw, h2b⟩ := zVRs_cons h2a
    obtain ⟨j, rfl, hj⟩ := zVR_i hv
    obtain ⟨i, rfl, hi⟩ := zVR_i hw
    subst hi; subst hj
    have hiff := Int32.lt_iff_toInt_lt (x := i) (y := j)
    refine lv_icmp_lt hC.1 hC.2.1 hdg ht (fun cz => ?_) (fun cz => ?_)
    · have e : zcond (48 - 46) i.toInt j.toInt = true := decide_eq_true (hiff.mp cz)
      rw [e] at hk
      exact hk ls rst H locs h0 h1 h2b h3 h4
    · have e : zcond (48 - 46) i.toInt j.toInt = false := decide_eq_false (fun z => cz (hiff.mpr z))
      rw [e] at hk
      exact hk ls rst H locs h0 h1 h2b h3 h4
  · cases hs
theorem zs_if_ge {p : Program} {l : Launch} {e : Env} {R : Room} {s : State} {m : MethodId} {args : Array Value} {below : List Frame} {meth : Method} {c : Code} {Q : State → Prop} {K : zK} {ph : Bool} {c0 s0 : Int} {gs : zG} {own nm : String} {cc : ByteArray} {pc : Nat} {L st : List zV} {M : zM} {off : Int} {tg pc' : Nat} {st' : List zV} (hC : zCtx K own nm cc p s m args meth c) (hdg : decode cc pc = .ok (.ifCond .ge off, 3)) (ht : (pc : Int) + off = (tg : Int)) (hs : zF2_1 43 (pc + 3) tg st = some (pc', st')) (hk : zGo p l e R s m args below meth c Q K ph c0 s0 gs pc' L st' M) :
    zGo p l e R s m args below meth c Q K ph c0 s0 gs pc L st M := by
  unfold zF2_1 at hs
  split at hs
  · rename_i a x st
    cases hs
    intro ls rst H locs h0 h1 h2 h3 h4
    obtain ⟨rv, rst, rfl, hv, h2a⟩ := zVRs_cons h2
    obtain ⟨i, rfl, hi⟩ := zVR_i hv
    subst hi
    have e : ∀ q : Prop, [Decidable q] → (zcond 3 i.toInt 0 = decide q) → True := fun _ _ _ => trivial
    have hiff := Int32.le_iff_toInt_le (x := 0) (y := i)
    refine lv_if_ge hC.1 hC.2.1 hdg ht (fun cz => ?_) (fun cz => ?_)
    · have e : zcond (43 - 40) i.toInt 0 = true := decide_eq_true (hiff.mp cz)
      rw [e] at hk
      exact hk ls rst H locs h0 h1 h2a h3 h4
    · have e : zcond (43 - 40) i.toInt 0 = false := decide_eq_false (fun z => cz (hiff.mpr z))
      rw [e] at hk
      exact hk ls rst H locs h0 h1 h2a h3 h4
  · cases hs
theorem zs_icmp_ge {p : Program} {l : Launch} {e : Env} {R : Room} {s : State} {m : MethodId} {args : Array Value} {below : List Frame} {meth : Method} {c : Code} {Q : State → Prop} {K : zK} {ph : Bool} {c0 s0 : Int} {gs : zG} {own nm : String} {cc : ByteArray} {pc : Nat} {L st : List zV} {M : zM} {off : Int} {tg pc' : Nat} {st' : List zV} (hC : zCtx K own nm cc p s m args meth c) (hdg : decode cc pc = .ok (.if_icmp .ge off, 3)) (ht : (pc : Int) + off = (tg : Int)) (hs : zF2_2 49 (pc + 3) tg st = some (pc', st')) (hk : zGo p l e R s m args below meth c Q K ph c0 s0 gs pc' L st' M) :
    zGo p l e R s m args below meth c Q K ph c0 s0 gs pc L st M := by
  unfold zF2_2 at hs
  split at hs
  · rename_i b y a x st
    cases hs
    intro ls rst H locs h0 h1 h2 h3 h4
    obtain ⟨rv, rst, rfl, hv, h2a⟩ := zVRs_cons h2
    obtain ⟨rw', rst, rfl, hw, h2b⟩ := zVRs_cons h2a
    obtain ⟨j, rfl, hj⟩ := zVR_i hv
    obtain ⟨i, rfl, hi⟩ := zVR_i hw
    subst hi; subst hj
    have hiff := Int32.le_iff_toInt_le (x := j) (y := i)
    refine lv_icmp_ge hC.1 hC.2.1 hdg ht (fun cz => ?_) (fun cz => ?_)
    · have e : zcond (49 - 46) i.toInt j.toInt = true := decide_eq_true (hiff.mp cz)
      rw [e] at hk
      exact hk ls rst H locs h0 h1 h2b h3 h4
    · have e : zcond (49 - 46) i.toInt j.toInt = false := decide_eq_false (fun z => cz (hiff.mpr z))
      rw [e] at hk
      exact hk ls rst H locs h0 h1 h2b h3 h4
  · cases hs
theorem zs_if_gt {p : Program} {l : Launch} {e : Env} {R : Room} {s : State} {m : MethodId} {args : Array Value} {below : List Frame} {meth : Method} {c : Code} {Q : State → Prop} {K : zK} {ph : Bool} {c0 s0 : Int} {gs : zG} {own nm : String} {cc : ByteArray} {pc : Nat} {L st : List zV} {M : zM} {off : Int} {tg pc' : Nat} {st' : List zV} (hC : zCtx K own nm cc p s m args meth c) (hdg : decode cc pc = .ok (.ifCond .gt off, 3)) (ht : (pc : Int) + off = (tg : Int)) (hs : zF2_1 44 (pc + 3) tg st = some (pc', st')) (hk : zGo p l e R s m args below meth c Q K ph c0 s0 gs pc' L st' M) :
    zGo p l e R s m args below meth c Q K ph c0 s0 gs pc L st M := by
  unfold zF2_1 at hs
  split at hs
  · rename_i a x st
    cases hs
    intro ls rst H locs h0 h1 h2 h3 h4
    obtain ⟨rv, rst, rfl, hv, h2a⟩ := zVRs_cons h2
    obtain ⟨i, rfl, hi⟩ := zVR_i hv
    subst hi
    have e : ∀ q : Prop, [Decidable q] → (zcond 4 i.toInt 0 = decide q) → True := fun _ _ _ => trivial
    have hiff := Int32.lt_iff_toInt_lt (x := 0) (y := i)
    refine lv_if_gt hC.1 hC.2.1 hdg ht (fun cz => ?_) (fun cz => ?_)
    · have e : zcond (44 - 40) i.toInt 0 = true := decide_eq_true (hiff.mp cz)
      rw [e] at hk
      exact hk ls rst H locs h0 h1 h2a h3 h4
    · have e : zcond (44 - 40) i.toInt 0 = false := decide_eq_false (fun z => cz (hiff.mpr z))
      rw [e] at hk
      exact hk ls rst H locs h0 h1 h2a h3 h4
  · cases hs
theorem zs_icmp_gt {p : Program} {l : Launch} {e : Env} {R : Room} {s : State} {m : MethodId} {args : Array Value} {below : List Frame} {meth : Method} {c : Code} {Q : State → Prop} {K : zK} {ph : Bool} {c0 s0 : Int} {gs : zG} {own nm : String} {cc : ByteArray} {pc : Nat} {L st : List zV} {M : zM} {off : Int} {tg pc' : Nat} {st' : List zV} (hC : zCtx K own nm cc p s m args meth c) (hdg : decode cc pc = .ok (.if_icmp .gt off, 3)) (ht : (pc : Int) + off = (tg : Int)) (hs : zF2_2 50 (pc + 3) tg st = some (pc', st')) (hk : zGo p l e R s m args below meth c Q K ph c0 s0 gs pc' L st' M) :
    zGo p l e R s m args below meth c Q K ph c0 s0 gs pc L st M := by
  unfold zF2_2 at hs
  split at hs
  · rename_i b y a x st
    cases hs
    intro ls rst H locs h0 h1 h2 h3 h4
    obtain ⟨rv, rst, rfl, hv, h2a⟩ := zVRs_cons h2
    obtain ⟨rw', rst, rfl, hw, h2b⟩ := zVRs_cons h2a
    obtain ⟨j, rfl, hj⟩ := zVR_i hv
    obtain ⟨i, rfl, hi⟩ := zVR_i hw
    subst hi; subst hj
    have hiff := Int32.lt_iff_toInt_lt (x := j) (y := i)
    refine lv_icmp_gt hC.1 hC.2.1 hdg ht (fun cz => ?_) (fun cz => ?_)
    · have e : zcond (50 - 46) i.toInt j.toInt = true := decide_eq_true (hiff.mp cz)
      rw [e] at hk
      exact hk ls rst H locs h0 h1 h2b h3 h4
    · have e : zcond (50 - 46) i.toInt j.toInt = false := decide_eq_false (fun z => cz (hiff.mpr z))
      rw [e] at hk
      exact hk ls rst H locs h0 h1 h2b h3 h4
  · cases hs
theorem zs_if_le {p : Program} {l : Launch} {e : Env} {R : Room} {s : State} {m : MethodId} {args : Array Value} {below : List Frame} {meth : Method} {c : Code} {Q : State → Prop} {K : zK} {ph : Bool} {c0 s0 : Int} {gs : zG} {own nm : String} {cc : ByteArray} {pc : Nat} {L st : List zV} {M : zM} {off : Int} {tg pc' : Nat} {st' : List zV} (hC : zCtx K own nm cc p s m args meth c) (hdg : decode cc pc = .ok (.ifCond .le off, 3)) (ht : (pc : Int) + off = (tg : Int)) (hs : zF2_1 45 (pc + 3) tg st = some (pc', st')) (hk : zGo p l e R s m args below meth c Q K ph c0 s0 gs pc' L st' M) :
    zGo p l e R s m args below meth c Q K ph c0 s0 gs pc L st M := by
  unfold zF2_1 at hs
  split at hs
  · rename_i a x st
    cases hs
    intro ls rst H locs h0 h1 h2 h3 h4
    obtain ⟨rv, rst, rfl, hv, h2a⟩ := zVRs_cons h2
    obtain ⟨i, rfl, hi⟩ := zVR_i hv
    subst hi
    have e : ∀ q : Prop, [Decidable q] → (zcond 5 i.toInt 0 = decide q) → True := fun _ _ _ => trivial
    have hiff := Int32.le_iff_toInt_le (x := i) (y := 0)
    refine lv_if_le hC.1 hC.2.1 hdg ht (fun cz => ?_) (fun cz => ?_)
    · have e : zcond (45 - 40) i.toInt 0 = true := decide_eq_true (hiff.mp cz)
      rw [e] at hk
      exact hk ls rst H locs h0 h1 h2a h3 h4
    · have e : zcond (45 - 40) i.toInt 0 = false := decide_eq_false (fun z => cz (hiff.mpr z))
      rw [e] at hk
      exact hk ls rst H locs h0 h1 h2a h3 h4
  · cases hs
theorem zs_icmp_le {p : Program} {l : Launch} {e : Env} {R : Room} {s : State} {m : MethodId} {args : Array Value} {below : List Frame} {meth : Method} {c : Code} {Q : State → Prop} {K : zK} {ph : Bool} {c0 s0 : Int} {gs : zG} {own nm : String} {cc : ByteArray} {pc : Nat} {L st : List zV} {M : zM} {off : Int} {tg pc' : Nat} {st' : List zV} (hC : zCtx K own nm cc p s m args meth c) (hdg : decode cc pc = .ok (.if_icmp .le off, 3)) (ht : (pc : Int) + off = (tg : Int)) (hs : zF2_2 51 (pc + 3) tg st = some (pc', st')) (hk : zGo p l e R s m args below meth c Q K ph c0 s0 gs pc' L st' M) :
    zGo p l e R s m args below meth c Q K ph c0 s0 gs pc L st M := by
  unfold zF2_2 at hs
  split at hs
  · rename_i b y a x st
    cases hs
    intro ls rst H locs h0 h1 h2 h3 h4
    obtain ⟨rv, rst, rfl, hv, h2a⟩ := zVRs_cons h2
    obtain ⟨rw', rst, rfl, hw, h2b⟩ := zVRs_cons h2a
    obtain ⟨j, rfl, hj⟩ := zVR_i hv
    obtain ⟨i, rfl, hi⟩ := zVR_i hw
    subst hi; subst hj
    have hiff := Int32.le_iff_toInt_le (x := i) (y := j)
    refine lv_icmp_le hC.1 hC.2.1 hdg ht (fun cz => ?_) (fun cz => ?_)
    · have e : zcond (51 - 46) i.toInt j.toInt = true := decide_eq_true (hiff.mp cz)
      rw [e] at hk
      exact hk ls rst H locs h0 h1 h2b h3 h4
    · have e : zcond (51 - 46) i.toInt j.toInt = false := decide_eq_false (fun z => cz (hiff.mpr z))
      rw [e] at hk
      exact hk ls rst H locs h0 h1 h2b h3 h4
  · cases hs
theorem zs_goto {p : Program} {l : Launch} {e : Env} {R : Room} {s : State} {m : MethodId} {args : Array Value} {below : List Frame} {meth : Method} {c : Code} {Q : State → Prop} {K : zK} {ph : Bool} {c0 s0 : Int} {gs : zG} {own nm : String} {cc : ByteArray} {pc : Nat} {L st : List zV} {M : zM} {off : Int} {tg : Nat} (hC : zCtx K own nm cc p s m args meth c) (hdg : decode cc pc = .ok (.goto off, 3)) (ht : (pc : Int) + off = (tg : Int)) (hk : zGo p l e R s m args below meth c Q K ph c0 s0 gs tg L st M) :
    zGo p l e R s m args below meth c Q K ph c0 s0 gs pc L st M := by
  intro ls rst H locs h0 h1 h2 h3 h4
  refine lv_goto hC.1 hC.2.1 hdg ht ?_
  exact hk ls rst H locs h0 h1 h2 h3 h4
theorem zs_acmp_eq {p : Program} {l : Launch} {e : Env} {R : Room} {s : State} {m : MethodId} {args : Array Value} {below : List Frame} {meth : Method} {c : Code} {Q : State → Prop} {K : zK} {ph : Bool} {c0 s0 : Int} {gs : zG} {own nm : String} {cc : ByteArray} {pc : Nat} {L st : List zV} {M : zM} {off : Int} {tg pc' : Nat} {st' : List zV} (hC : zCtx K own nm cc p s m args meth c) (hdg : decode cc pc = .ok (.if_acmp .eq off, 3)) (ht : (pc : Int) + off = (tg : Int)) (hs : zF2_e 53 (pc + 3) tg st = some (pc', st')) (hk : zGo p l e R s m args below meth c Q K ph c0 s0 gs pc' L st' M) :
    zGo p l e R s m args below meth c Q K ph c0 s0 gs pc L st M := by
  unfold zF2_e at hs
  split at hs
  · rename_i b y a x st
    cases hs
    intro ls rst H locs h0 h1 h2 h3 h4
    obtain ⟨rv, rst, rfl, hv, h2a⟩ := zVRs_cons h2
    obtain ⟨rw', rst, rfl, hw, h2b⟩ := zVRs_cons h2a
    obtain ⟨rfl, hrb, -⟩ := zVR_stat hv (by omega)
    obtain ⟨rfl, hra, -⟩ := zVR_stat hw (by omega)
    have inj := hC.2.2.2.2.2.1.1.2
    have hiff : some (zsa K 4 a) = some (zsa K 4 b) ↔ a = b := by
      constructor
      · intro z
        have z := Option.some.inj z
        simp only [zrng, if_true] at hrb hra
        have := inj (a - 1).toNat (b - 1).toNat (by show _ < 34; omega) (by show _ < 34; omega) (by
          show zsa K 4 (((a - 1).toNat : Int) + 1) = zsa K 4 (((b - 1).toNat : Int) + 1)
          rw [show (((a - 1).toNat : Int) + 1) = a by omega, show (((b - 1).toNat : Int) + 1) = b by omega]; exact z)
        omega
      · rintro rfl; rfl
    refine lv_acmp_eq (rx := some (zsa K 4 a)) (ry := some (zsa K 4 b)) hC.1 hC.2.1 hdg ht (fun cz => ?_) (fun cz => ?_)
    · have e : zcond (53 - 53) a b = true := decide_eq_true (hiff.mp cz)
      rw [e] at hk
      exact hk ls rst H locs h0 h1 h2b h3 h4
    · have e : zcond (53 - 53) a b = false := decide_eq_false (fun z => cz (hiff.mpr z))
      rw [e] at hk
      exact hk ls rst H locs h0 h1 h2b h3 h4
  · cases hs
theorem zs_acmp_ne {p : Program} {l : Launch} {e : Env} {R : Room} {s : State} {m : MethodId} {args : Array Value} {below : List Frame} {meth : Method} {c : Code} {Q : State → Prop} {K : zK} {ph : Bool} {c0 s0 : Int} {gs : zG} {own nm : String} {cc : ByteArray} {pc : Nat} {L st : List zV} {M : zM} {off : Int} {tg pc' : Nat} {st' : List zV} (hC : zCtx K own nm cc p s m args meth c) (hdg : decode cc pc = .ok (.if_acmp .ne off, 3)) (ht : (pc : Int) + off = (tg : Int)) (hs : zF2_e 54 (pc + 3) tg st = some (pc', st')) (hk : zGo p l e R s m args below meth c Q K ph c0 s0 gs pc' L st' M) :
    zGo p l e R s m args below meth c Q K ph c0 s0 gs pc L st M := by
  unfold zF2_e at hs
  split at hs
  · rename_i b y a x st
    cases hs
    intro ls rst H locs h0 h1 h2 h3 h4
    obtain ⟨rv, rst, rfl, hv, h2a⟩ := zVRs_cons h2
    obtain ⟨rw', rst, rfl, hw, h2b⟩ := zVRs_cons h2a
    obtain ⟨rfl, hrb, -⟩ := zVR_stat hv (by omega)
    obtain ⟨rfl, hra, -⟩ := zVR_stat hw (by omega)
    have inj := hC.2.2.2.2.2.1.1.2
    have hiff : some (zsa K 4 a) = some (zsa K 4 b) ↔ a = b := by
      constructor
      · intro z
        have z := Option.some.inj z
        simp only [zrng, if_true] at hrb hra
        have := inj (a - 1).toNat (b - 1).toNat (by show _ < 34; omega) (by show _ < 34; omega) (by
          show zsa K 4 (((a - 1).toNat : Int) + 1) = zsa K 4 (((b - 1).toNat : Int) + 1)
          rw [show (((a - 1).toNat : Int) + 1) = a by omega, show (((b - 1).toNat : Int) + 1) = b by omega]; exact z)
        omega
      · rintro rfl; rfl
    refine lv_acmp_ne (rx := some (zsa K 4 a)) (ry := some (zsa K 4 b)) hC.1 hC.2.1 hdg ht (fun cz => ?_) (fun cz => ?_)
    · have e : zcond (54 - 53) a b = true := decide_eq_true (fun z => cz (hiff.mpr z))
      rw [e] at hk
      exact hk ls rst H locs h0 h1 h2b h3 h4
    · have e : zcond (54 - 53) a b = false := decide_eq_false (fun z => z (hiff.mp cz))
      rw [e] at hk
      exact hk ls rst H locs h0 h1 h2b h3 h4
  · cases hs
theorem zs_ifnonnull {p : Program} {l : Launch} {e : Env} {R : Room} {s : State} {m : MethodId} {args : Array Value} {below : List Frame} {meth : Method} {c : Code} {Q : State → Prop} {K : zK} {ph : Bool} {c0 s0 : Int} {gs : zG} {own nm : String} {cc : ByteArray} {pc : Nat} {L st : List zV} {M : zM} {off : Int} {tg pc' : Nat} {st' : List zV} (hC : zCtx K own nm cc p s m args meth c) (hdg : decode cc pc = .ok (.ifnonnull off, 3)) (ht : (pc : Int) + off = (tg : Int)) (hs : zF2_n tg st = some (pc', st')) (hk : zGo p l e R s m args below meth c Q K ph c0 s0 gs pc' L st' M) :
    zGo p l e R s m args below meth c Q K ph c0 s0 gs pc L st M := by
  unfold zF2_n at hs
  split at hs
  · rename_i v st
    split at hs
    · rename_i hn
      cases hs
      intro ls rst H locs h0 h1 h2 h3 h4
      obtain ⟨rv, rst, rfl, hv, h2a⟩ := zVRs_cons h2
      have hq : ∃ q, rv = .ref q := by
        by_cases hz : (4 ≤ v.1 ∧ v.1 < 10) ∨ v.1 = 16
        · exact ⟨_, (zVR_stat (t := v.1) (x := v.2.1) (n := v.2.2) hv hz).1⟩
        · obtain ⟨k, q, -, -, h⟩ := zVR_cell (t := v.1) (x := v.2.1) (n := v.2.2) hv (by omega) (by omega) hn.2
          exact ⟨q, h⟩
      obtain ⟨q, rfl⟩ := hq
      refine lv_ifnonnull hC.1 hC.2.1 hdg ht ?_
      exact hk ls rst H locs h0 h1 h2a h3 h4
    · cases hs
  · cases hs
theorem zs_tsw {p : Program} {l : Launch} {e : Env} {R : Room} {s : State} {m : MethodId} {args : Array Value} {below : List Frame} {meth : Method} {c : Code} {Q : State → Prop} {K : zK} {ph : Bool} {c0 s0 : Int} {gs : zG} {own nm : String} {cc : ByteArray} {pc : Nat} {L st : List zV} {M : zM} {dflt lo hi : Int} {offs : Array Int} {len tg pc' : Nat} {ts : List Int} {st' : List zV} (hC : zCtx K own nm cc p s m args meth c) (hdg : decode cc pc = .ok (.tableswitch dflt lo hi offs, len)) (ht : (pc : Int) + dflt = (tg : Int)) (hts : ts = offs.toList.map (fun o => (pc : Int) + o)) (hpos : ∀ t ∈ ts, 0 ≤ t) (hhi : hi + 1 = lo + ts.length) (hs : zF2_t tg (lo :: ts) st = some (pc', st')) (hk : zGo p l e R s m args below meth c Q K ph c0 s0 gs pc' L st' M) :
    zGo p l e R s m args below meth c Q K ph c0 s0 gs pc L st M := by
  unfold zF2_t at hs
  split at hs
  · rename_i a x st
    cases hs
    intro ls rst H locs h0 h1 h2 h3 h4
    obtain ⟨rv, rst, rfl, hv, h2a⟩ := zVRs_cons h2
    obtain ⟨i, rfl, hi⟩ := zVR_i hv
    subst hi
    have hk : zGo p l e R s m args below meth c Q K ph c0 s0 gs (ztsw tg lo ts i.toInt) L st' M := hk
    by_cases h5 : i.toInt < lo ∨ hi < i.toInt
    · refine lv_tableOut hC.1 hC.2.1 hdg h5 ht ?_
      have e : ztsw tg lo ts i.toInt = tg := by
        unfold ztsw
        split
        · rw [List.getElem?_eq_none (by omega)]; rfl
        · rfl
      rw [e] at hk
      exact hk ls rst H locs h0 h1 h2a h3 h4
    · have hlt : (i.toInt - lo).toNat < ts.length := by omega
      have hlo : (i.toInt - lo).toNat < offs.toList.length := by rw [hts, List.length_map] at hlt; exact hlt
      have e1 : ts[(i.toInt - lo).toNat]? = some ((pc : Int) + offs.toList[(i.toInt - lo).toNat]) := by rw [hts, List.getElem?_map, List.getElem?_eq_getElem hlo]; rfl
      have hp := hpos _ (List.mem_of_getElem? e1)
      refine lv_tableIn (off := offs.toList[(i.toInt - lo).toNat]) (tgt := ((pc : Int) + offs.toList[(i.toInt - lo).toNat]).toNat) hC.1 hC.2.1 hdg (fun z => h5 (Or.inl z)) (fun z => h5 (Or.inr z)) (by rw [← Array.getElem?_toList, List.getElem?_eq_getElem hlo]) (by omega) ?_
      have e : ztsw tg lo ts i.toInt = ((pc : Int) + offs.toList[(i.toInt - lo).toNat]).toNat := by
        unfold ztsw
        rw [if_pos (by omega), e1]; rfl
      rw [e] at hk
      exact hk ls rst H locs h0 h1 h2a h3 h4
  · cases hs
/-- a switch by keys, as a list -/
def zlswr (pc : Int) : List (Int × Int) → List Int
  | [] => []
  | (k, t) :: l => k :: (pc + t) :: zlswr pc l
theorem zlsw_off (pc : Nat) (dflt : Int) (tg : Nat) (ht : (pc : Int) + dflt = tg) (x : Int) : ∀ (ps : List (Int × Int)), (∀ q ∈ ps, 0 ≤ (pc : Int) + q.2) → (pc : Int) + Op.lookupswitch.offset ps dflt x = (zlsw tg (zlswr pc ps) x : Nat)
  | [], _ => by simpa [zlswr, zlsw, Op.lookupswitch.offset] using ht
  | (k, t) :: l, h => by
    have ih := zlsw_off pc dflt tg ht x l (fun q hq => h q (List.mem_cons_of_mem _ hq))
    have h0 := h (k, t) List.mem_cons_self
    simp only [zlswr, zlsw]
    rw [Op.lookupswitch.offset_cons]
    by_cases hx : k = x
    · subst hx
      rw [if_pos rfl, if_pos rfl]
      dsimp only at h0
      omega
    · rw [if_neg hx, if_neg (fun z => hx z.symm)]
      exact ih
theorem zs_lsw {p : Program} {l : Launch} {e : Env} {R : Room} {s : State} {m : MethodId} {args : Array Value} {below : List Frame} {meth : Method} {c : Code} {Q : State → Prop} {K : zK} {ph : Bool} {c0 s0 : Int} {gs : zG} {own nm : String} {cc : ByteArray} {pc : Nat} {L st : List zV} {M : zM} {dflt : Int} {ps : Array (Int × Int)} {len tg pc' : Nat} {st' : List zV} (hC : zCtx K own nm cc p s m args meth c) (hdg : decode cc pc = .ok (.lookupswitch dflt ps, len)) (hp : (ps.toList.zip (ps.toList.drop 1)).all (fun (a, next) => a.1 < next.1) = true) (ht : (pc : Int) + dflt = (tg : Int)) (hpos : ∀ q ∈ ps.toList, 0 ≤ (pc : Int) + q.2) (hs : zF2_l tg (zlswr pc ps.toList) st = some (pc', st')) (hk : zGo p l e R s m args below meth c Q K ph c0 s0 gs pc' L st' M) :
    zGo p l e R s m args below meth c Q K ph c0 s0 gs pc L st M := by
  unfold zF2_l at hs
  split at hs
  · rename_i a x st
    cases hs
    intro ls rst H locs h0 h1 h2 h3 h4
    obtain ⟨rv, rst, rfl, hv, h2a⟩ := zVRs_cons h2
    obtain ⟨i, rfl, hi⟩ := zVR_i hv
    subst hi
    refine lv_lookup hC.1 hC.2.1 hdg hp rfl (zlsw_off pc dflt tg ht i.toInt ps.toList hpos) ?_
    exact hk ls rst H locs h0 h1 h2a h3 h4
  · cases hs
