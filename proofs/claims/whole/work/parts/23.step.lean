theorem zs_iconst {p : Program} {l : Launch} {e : Env} {R : Room} {s : State} {m : MethodId} {args : Array Value} {below : List Frame} {meth : Method} {c : Code} {Q : State → Prop} {K : zK} {ph : Bool} {c0 s0 : Int} {gs : zG} {own nm : String} {cc : ByteArray} {pc : Nat} {L st : List zV} {M : zM} {n : Int} (hC : zCtx K own nm cc p s m args meth c) (hdg : decode cc pc = .ok (.iconst n, 1)) (hn : n.bmod (2 ^ 32) = n) (hk : zGo p l e R s m args below meth c Q K ph c0 s0 gs (pc + 1) L ((0, n, 0) :: st) M) :
    zGo p l e R s m args below meth c Q K ph c0 s0 gs pc L st M := by
  intro ls rst H locs h0 h1 h2 h3 h4
  refine lv_iconst hC.1 hC.2.1 hdg rfl ?_
  exact hk ls (_ :: rst) H locs h0 h1 ⟨zVR_mki _ (by rw [Int32.toInt_ofInt]; exact hn), h2⟩ h3 h4
theorem zs_bipush {p : Program} {l : Launch} {e : Env} {R : Room} {s : State} {m : MethodId} {args : Array Value} {below : List Frame} {meth : Method} {c : Code} {Q : State → Prop} {K : zK} {ph : Bool} {c0 s0 : Int} {gs : zG} {own nm : String} {cc : ByteArray} {pc : Nat} {L st : List zV} {M : zM} {n : Int} (hC : zCtx K own nm cc p s m args meth c) (hdg : decode cc pc = .ok (.bipush n, 2)) (hn : n.bmod (2 ^ 8) = n) (hk : zGo p l e R s m args below meth c Q K ph c0 s0 gs (pc + 2) L ((0, n, 0) :: st) M) :
    zGo p l e R s m args below meth c Q K ph c0 s0 gs pc L st M := by
  intro ls rst H locs h0 h1 h2 h3 h4
  refine lv_bipush hC.1 hC.2.1 hdg rfl ?_
  exact hk ls (_ :: rst) H locs h0 h1 ⟨zVR_mki _ (by rw [Int8.toInt_toInt32, Int8.toInt_ofInt]; exact hn), h2⟩ h3 h4
theorem zs_sipush {p : Program} {l : Launch} {e : Env} {R : Room} {s : State} {m : MethodId} {args : Array Value} {below : List Frame} {meth : Method} {c : Code} {Q : State → Prop} {K : zK} {ph : Bool} {c0 s0 : Int} {gs : zG} {own nm : String} {cc : ByteArray} {pc : Nat} {L st : List zV} {M : zM} {n : Int} (hC : zCtx K own nm cc p s m args meth c) (hdg : decode cc pc = .ok (.sipush n, 3)) (hn : n.bmod (2 ^ 16) = n) (hk : zGo p l e R s m args below meth c Q K ph c0 s0 gs (pc + 3) L ((0, n, 0) :: st) M) :
    zGo p l e R s m args below meth c Q K ph c0 s0 gs pc L st M := by
  intro ls rst H locs h0 h1 h2 h3 h4
  refine lv_sipush hC.1 hC.2.1 hdg rfl ?_
  exact hk ls (_ :: rst) H locs h0 h1 ⟨zVR_mki _ (by rw [Int16.toInt_toInt32, Int16.toInt_ofInt]; exact hn), h2⟩ h3 h4
theorem zs_lconst {p : Program} {l : Launch} {e : Env} {R : Room} {s : State} {m : MethodId} {args : Array Value} {below : List Frame} {meth : Method} {c : Code} {Q : State → Prop} {K : zK} {ph : Bool} {c0 s0 : Int} {gs : zG} {own nm : String} {cc : ByteArray} {pc : Nat} {L st : List zV} {M : zM} {n : Fin 2} (hC : zCtx K own nm cc p s m args meth c) (hdg : decode cc pc = .ok (.lconst n, 1)) (hk : zGo p l e R s m args below meth c Q K ph c0 s0 gs (pc + 1) L ((1, (n : Nat), 0) :: st) M) :
    zGo p l e R s m args below meth c Q K ph c0 s0 gs pc L st M := by
  intro ls rst H locs h0 h1 h2 h3 h4
  refine lv_lconst hC.1 hC.2.1 hdg rfl ?_
  exact hk ls (_ :: rst) H locs h0 h1 ⟨zVR_mkl _ (by rcases n with ⟨n, hn⟩; rcases (show n = 0 ∨ n = 1 by omega) with rfl | rfl <;> rfl), h2⟩ h3 h4
theorem zs_ldc {p : Program} {l : Launch} {e : Env} {R : Room} {s : State} {m : MethodId} {args : Array Value} {below : List Frame} {meth : Method} {c : Code} {Q : State → Prop} {K : zK} {ph : Bool} {c0 s0 : Int} {gs : zG} {own nm : String} {cc : ByteArray} {pc : Nat} {L st : List zV} {M : zM} {i : Nat} {v : Int32} (hC : zCtx K own nm cc p s m args meth c) (hdg : decode cc pc = .ok (.ldc i, 2)) (hw : Cond.constant own i v ∈ zwl) (hk : zGo p l e R s m args below meth c Q K ph c0 s0 gs (pc + 2) L ((0, v.toInt, 0) :: st) M) :
    zGo p l e R s m args below meth c Q K ph c0 s0 gs pc L st M := by
  intro ls rst H locs h0 h1 h2 h3 h4
  refine lv_ldc hC.1 hC.2.1 hC.2.2.1 (hC.2.2.2.1 _ hw) hdg ?_
  exact hk ls (_ :: rst) H locs h0 h1 ⟨zVR_mki _ rfl, h2⟩ h3 h4
theorem zs_ldcw {p : Program} {l : Launch} {e : Env} {R : Room} {s : State} {m : MethodId} {args : Array Value} {below : List Frame} {meth : Method} {c : Code} {Q : State → Prop} {K : zK} {ph : Bool} {c0 s0 : Int} {gs : zG} {own nm : String} {cc : ByteArray} {pc : Nat} {L st : List zV} {M : zM} {i : Nat} {v : Int32} (hC : zCtx K own nm cc p s m args meth c) (hdg : decode cc pc = .ok (.ldc_w i, 3)) (hw : Cond.constant own i v ∈ zwl) (hk : zGo p l e R s m args below meth c Q K ph c0 s0 gs (pc + 3) L ((0, v.toInt, 0) :: st) M) :
    zGo p l e R s m args below meth c Q K ph c0 s0 gs pc L st M := by
  intro ls rst H locs h0 h1 h2 h3 h4
  refine lv_ldcw hC.1 hC.2.1 hC.2.2.1 (hC.2.2.2.1 _ hw) hdg ?_
  exact hk ls (_ :: rst) H locs h0 h1 ⟨zVR_mki _ rfl, h2⟩ h3 h4
theorem zs_ldc2 {p : Program} {l : Launch} {e : Env} {R : Room} {s : State} {m : MethodId} {args : Array Value} {below : List Frame} {meth : Method} {c : Code} {Q : State → Prop} {K : zK} {ph : Bool} {c0 s0 : Int} {gs : zG} {own nm : String} {cc : ByteArray} {pc : Nat} {L st : List zV} {M : zM} {i : Nat} {v : Int64} (hC : zCtx K own nm cc p s m args meth c) (hdg : decode cc pc = .ok (.ldc2_w i, 3)) (hw : Cond.constantLong own i v ∈ zwl) (hk : zGo p l e R s m args below meth c Q K ph c0 s0 gs (pc + 3) L ((1, v.toInt, 0) :: st) M) :
    zGo p l e R s m args below meth c Q K ph c0 s0 gs pc L st M := by
  intro ls rst H locs h0 h1 h2 h3 h4
  refine lv_ldc2 hC.1 hC.2.1 hC.2.2.1 (hC.2.2.2.1 _ hw) hdg ?_
  exact hk ls (_ :: rst) H locs h0 h1 ⟨zVR_mkl _ rfl, h2⟩ h3 h4
theorem zs_iload {p : Program} {l : Launch} {e : Env} {R : Room} {s : State} {m : MethodId} {args : Array Value} {below : List Frame} {meth : Method} {c : Code} {Q : State → Prop} {K : zK} {ph : Bool} {c0 s0 : Int} {gs : zG} {own nm : String} {cc : ByteArray} {pc : Nat} {L st : List zV} {M : zM} {k : Nat} {L' st' : List zV} (hC : zCtx K own nm cc p s m args meth c) (hdg : decode cc pc = .ok (.iload k, 2)) (hs : zF0_il k L st = some (L', st')) (hk : zGo p l e R s m args below meth c Q K ph c0 s0 gs (pc + 2) L' st' M) :
    zGo p l e R s m args below meth c Q K ph c0 s0 gs pc L st M := by
  unfold zF0_il at hs
  split at hs
  · rename_i x n hx
    cases hs
    intro ls rst H locs h0 h1 h2 h3 h4
    obtain ⟨rv, hv, hl⟩ := h1.2.2 _ _ (znth_get hx (by dsimp only; omega)) (by dsimp only; omega)
    obtain ⟨i, rfl, hi⟩ := zVR_i hv
    refine lv_iload hC.1 hC.2.1 hdg hl ?_
    exact hk ls (_ :: rst) H locs h0 h1 ⟨zVR_mki i hi, h2⟩ h3 h4
  · cases hs
theorem zs_iload_n {p : Program} {l : Launch} {e : Env} {R : Room} {s : State} {m : MethodId} {args : Array Value} {below : List Frame} {meth : Method} {c : Code} {Q : State → Prop} {K : zK} {ph : Bool} {c0 s0 : Int} {gs : zG} {own nm : String} {cc : ByteArray} {pc : Nat} {L st : List zV} {M : zM} {k : Fin 4} {L' st' : List zV} (hC : zCtx K own nm cc p s m args meth c) (hdg : decode cc pc = .ok (.iload_n k, 1)) (hs : zF0_il (k : Nat) L st = some (L', st')) (hk : zGo p l e R s m args below meth c Q K ph c0 s0 gs (pc + 1) L' st' M) :
    zGo p l e R s m args below meth c Q K ph c0 s0 gs pc L st M := by
  unfold zF0_il at hs
  split at hs
  · rename_i x n hx
    cases hs
    intro ls rst H locs h0 h1 h2 h3 h4
    obtain ⟨rv, hv, hl⟩ := h1.2.2 _ _ (znth_get hx (by dsimp only; omega)) (by dsimp only; omega)
    obtain ⟨i, rfl, hi⟩ := zVR_i hv
    refine lv_iload_n hC.1 hC.2.1 hdg rfl hl ?_
    exact hk ls (_ :: rst) H locs h0 h1 ⟨zVR_mki i hi, h2⟩ h3 h4
  · cases hs
theorem zs_lload {p : Program} {l : Launch} {e : Env} {R : Room} {s : State} {m : MethodId} {args : Array Value} {below : List Frame} {meth : Method} {c : Code} {Q : State → Prop} {K : zK} {ph : Bool} {c0 s0 : Int} {gs : zG} {own nm : String} {cc : ByteArray} {pc : Nat} {L st : List zV} {M : zM} {k : Nat} {L' st' : List zV} (hC : zCtx K own nm cc p s m args meth c) (hdg : decode cc pc = .ok (.lload k, 2)) (hs : zF0_ll k L st = some (L', st')) (hk : zGo p l e R s m args below meth c Q K ph c0 s0 gs (pc + 2) L' st' M) :
    zGo p l e R s m args below meth c Q K ph c0 s0 gs pc L st M := by
  unfold zF0_ll at hs
  split at hs
  · rename_i x n hx
    cases hs
    intro ls rst H locs h0 h1 h2 h3 h4
    obtain ⟨rv, hv, hl⟩ := h1.2.2 _ _ (znth_get hx (by dsimp only; omega)) (by dsimp only; omega)
    obtain ⟨i, rfl, hi⟩ := zVR_l hv
    refine lv_lload hC.1 hC.2.1 hdg hl ?_
    exact hk ls (_ :: rst) H locs h0 h1 ⟨zVR_mkl i hi, h2⟩ h3 h4
  · cases hs
theorem zs_lload_n {p : Program} {l : Launch} {e : Env} {R : Room} {s : State} {m : MethodId} {args : Array Value} {below : List Frame} {meth : Method} {c : Code} {Q : State → Prop} {K : zK} {ph : Bool} {c0 s0 : Int} {gs : zG} {own nm : String} {cc : ByteArray} {pc : Nat} {L st : List zV} {M : zM} {k : Fin 4} {L' st' : List zV} (hC : zCtx K own nm cc p s m args meth c) (hdg : decode cc pc = .ok (.lload_n k, 1)) (hs : zF0_ll (k : Nat) L st = some (L', st')) (hk : zGo p l e R s m args below meth c Q K ph c0 s0 gs (pc + 1) L' st' M) :
    zGo p l e R s m args below meth c Q K ph c0 s0 gs pc L st M := by
  unfold zF0_ll at hs
  split at hs
  · rename_i x n hx
    cases hs
    intro ls rst H locs h0 h1 h2 h3 h4
    obtain ⟨rv, hv, hl⟩ := h1.2.2 _ _ (znth_get hx (by dsimp only; omega)) (by dsimp only; omega)
    obtain ⟨i, rfl, hi⟩ := zVR_l hv
    refine lv_lload_n hC.1 hC.2.1 hdg rfl hl ?_
    exact hk ls (_ :: rst) H locs h0 h1 ⟨zVR_mkl i hi, h2⟩ h3 h4
  · cases hs
theorem zs_aload {p : Program} {l : Launch} {e : Env} {R : Room} {s : State} {m : MethodId} {args : Array Value} {below : List Frame} {meth : Method} {c : Code} {Q : State → Prop} {K : zK} {ph : Bool} {c0 s0 : Int} {gs : zG} {own nm : String} {cc : ByteArray} {pc : Nat} {L st : List zV} {M : zM} {k : Nat} {L' st' : List zV} (hC : zCtx K own nm cc p s m args meth c) (hdg : decode cc pc = .ok (.aload k, 2)) (hs : zF0_al k L st = some (L', st')) (hk : zGo p l e R s m args below meth c Q K ph c0 s0 gs (pc + 2) L' st' M) :
    zGo p l e R s m args below meth c Q K ph c0 s0 gs pc L st M := by
  unfold zF0_al at hs
  split at hs
  rename_i t x n hx
  split at hs
  · rename_i ht
    cases hs
    intro ls rst H locs h0 h1 h2 h3 h4
    obtain ⟨rv, hv, hl⟩ := h1.2.2 _ _ (znth_get hx (by dsimp only; omega)) (by dsimp only; omega)
    obtain ⟨r, rfl⟩ := zVR_ref hv ht
    cases r with
    | none =>
      refine lv_aloadN hC.1 hC.2.1 hdg hl ?_
      exact hk ls (_ :: rst) H locs h0 h1 ⟨hv, h2⟩ h3 h4
    | some q =>
      refine lv_aload hC.1 hC.2.1 hdg hl ?_
      exact hk ls (_ :: rst) H locs h0 h1 ⟨hv, h2⟩ h3 h4
  · cases hs
theorem zs_aload_n {p : Program} {l : Launch} {e : Env} {R : Room} {s : State} {m : MethodId} {args : Array Value} {below : List Frame} {meth : Method} {c : Code} {Q : State → Prop} {K : zK} {ph : Bool} {c0 s0 : Int} {gs : zG} {own nm : String} {cc : ByteArray} {pc : Nat} {L st : List zV} {M : zM} {k : Fin 4} {L' st' : List zV} (hC : zCtx K own nm cc p s m args meth c) (hdg : decode cc pc = .ok (.aload_n k, 1)) (hs : zF0_al (k : Nat) L st = some (L', st')) (hk : zGo p l e R s m args below meth c Q K ph c0 s0 gs (pc + 1) L' st' M) :
    zGo p l e R s m args below meth c Q K ph c0 s0 gs pc L st M := by
  unfold zF0_al at hs
  split at hs
  rename_i t x n hx
  split at hs
  · rename_i ht
    cases hs
    intro ls rst H locs h0 h1 h2 h3 h4
    obtain ⟨rv, hv, hl⟩ := h1.2.2 _ _ (znth_get hx (by dsimp only; omega)) (by dsimp only; omega)
    obtain ⟨r, rfl⟩ := zVR_ref hv ht
    cases r with
    | none =>
      refine lv_aload_nN hC.1 hC.2.1 hdg rfl hl ?_
      exact hk ls (_ :: rst) H locs h0 h1 ⟨hv, h2⟩ h3 h4
    | some q =>
      refine lv_aload_n hC.1 hC.2.1 hdg rfl hl ?_
      exact hk ls (_ :: rst) H locs h0 h1 ⟨hv, h2⟩ h3 h4
  · cases hs
theorem zs_istore {p : Program} {l : Launch} {e : Env} {R : Room} {s : State} {m : MethodId} {args : Array Value} {below : List Frame} {meth : Method} {c : Code} {Q : State → Prop} {K : zK} {ph : Bool} {c0 s0 : Int} {gs : zG} {own nm : String} {cc : ByteArray} {pc : Nat} {L st : List zV} {M : zM} {k : Nat} {L' st' : List zV} (hC : zCtx K own nm cc p s m args meth c) (hdg : decode cc pc = .ok (.istore k, 2)) (hs : zF0_is k L st = some (L', st')) (hk : zGo p l e R s m args below meth c Q K ph c0 s0 gs (pc + 2) L' st' M) :
    zGo p l e R s m args below meth c Q K ph c0 s0 gs pc L st M := by
  unfold zF0_is at hs
  split at hs
  · rename_i x n st
    split at hs
    · rename_i hk2
      cases hs
      intro ls rst H locs h0 h1 h2 h3 h4
      obtain ⟨rv, rst, rfl, hv, h2a⟩ := zVRs_cons h2
      obtain ⟨i, rfl, hi⟩ := zVR_i hv
      refine lv_istore hC.1 hC.2.1 hdg (zall_has h0 h1.2.1) (by rw [← h0, h1.1]; exact zok_lt hk2) rfl (fun ls' hl' => ?_)
      exact hk ls' rst H locs (by rw [hl'.1]) (zLoc_st1 h1 h0 (zVR_mki i hi) hk2 hl') h2a h3 h4
    · cases hs
  · cases hs
theorem zs_istore_n {p : Program} {l : Launch} {e : Env} {R : Room} {s : State} {m : MethodId} {args : Array Value} {below : List Frame} {meth : Method} {c : Code} {Q : State → Prop} {K : zK} {ph : Bool} {c0 s0 : Int} {gs : zG} {own nm : String} {cc : ByteArray} {pc : Nat} {L st : List zV} {M : zM} {k : Fin 4} {L' st' : List zV} (hC : zCtx K own nm cc p s m args meth c) (hdg : decode cc pc = .ok (.istore_n k, 1)) (hs : zF0_is (k : Nat) L st = some (L', st')) (hk : zGo p l e R s m args below meth c Q K ph c0 s0 gs (pc + 1) L' st' M) :
    zGo p l e R s m args below meth c Q K ph c0 s0 gs pc L st M := by
  unfold zF0_is at hs
  split at hs
  · rename_i x n st
    split at hs
    · rename_i hk2
      cases hs
      intro ls rst H locs h0 h1 h2 h3 h4
      obtain ⟨rv, rst, rfl, hv, h2a⟩ := zVRs_cons h2
      obtain ⟨i, rfl, hi⟩ := zVR_i hv
      refine lv_istore_n hC.1 hC.2.1 hdg rfl (zall_has h0 h1.2.1) (by rw [← h0, h1.1]; exact zok_lt hk2) rfl (fun ls' hl' => ?_)
      exact hk ls' rst H locs (by rw [hl'.1]) (zLoc_st1 h1 h0 (zVR_mki i hi) hk2 hl') h2a h3 h4
    · cases hs
  · cases hs
theorem zs_astore {p : Program} {l : Launch} {e : Env} {R : Room} {s : State} {m : MethodId} {args : Array Value} {below : List Frame} {meth : Method} {c : Code} {Q : State → Prop} {K : zK} {ph : Bool} {c0 s0 : Int} {gs : zG} {own nm : String} {cc : ByteArray} {pc : Nat} {L st : List zV} {M : zM} {k : Nat} {L' st' : List zV} (hC : zCtx K own nm cc p s m args meth c) (hdg : decode cc pc = .ok (.astore k, 2)) (hs : zF0_as k L st = some (L', st')) (hk : zGo p l e R s m args below meth c Q K ph c0 s0 gs (pc + 2) L' st' M) :
    zGo p l e R s m args below meth c Q K ph c0 s0 gs pc L st M := by
  unfold zF0_as at hs
  split at hs
  · rename_i t x n st
    split at hs
    · rename_i hk2
      obtain ⟨ht, hk2⟩ := hk2
      cases hs
      intro ls rst H locs h0 h1 h2 h3 h4
      obtain ⟨rv, rst, rfl, hv, h2a⟩ := zVRs_cons h2
      obtain ⟨r, rfl⟩ := zVR_ref hv ht
      cases r with
      | none =>
        refine lv_astoreN hC.1 hC.2.1 hdg (zall_has h0 h1.2.1) (by rw [← h0, h1.1]; exact zok_lt hk2) rfl (fun ls' hl' => ?_)
        exact hk ls' rst H locs (by rw [hl'.1]) (zLoc_st1 h1 h0 hv hk2 hl') h2a h3 h4
      | some q =>
        refine lv_astore hC.1 hC.2.1 hdg (zall_has h0 h1.2.1) (by rw [← h0, h1.1]; exact zok_lt hk2) rfl (fun ls' hl' => ?_)
        exact hk ls' rst H locs (by rw [hl'.1]) (zLoc_st1 h1 h0 hv hk2 hl') h2a h3 h4
    · cases hs
  · cases hs
theorem zs_astore_n {p : Program} {l : Launch} {e : Env} {R : Room} {s : State} {m : MethodId} {args : Array Value} {below : List Frame} {meth : Method} {c : Code} {Q : State → Prop} {K : zK} {ph : Bool} {c0 s0 : Int} {gs : zG} {own nm : String} {cc : ByteArray} {pc : Nat} {L st : List zV} {M : zM} {k : Fin 4} {L' st' : List zV} (hC : zCtx K own nm cc p s m args meth c) (hdg : decode cc pc = .ok (.astore_n k, 1)) (hs : zF0_as (k : Nat) L st = some (L', st')) (hk : zGo p l e R s m args below meth c Q K ph c0 s0 gs (pc + 1) L' st' M) :
    zGo p l e R s m args below meth c Q K ph c0 s0 gs pc L st M := by
  unfold zF0_as at hs
  split at hs
  · rename_i t x n st
    split at hs
    · rename_i hk2
      obtain ⟨ht, hk2⟩ := hk2
      cases hs
      intro ls rst H locs h0 h1 h2 h3 h4
      obtain ⟨rv, rst, rfl, hv, h2a⟩ := zVRs_cons h2
      obtain ⟨r, rfl⟩ := zVR_ref hv ht
      cases r with
      | none =>
        refine lv_astore_nN hC.1 hC.2.1 hdg rfl (zall_has h0 h1.2.1) (by rw [← h0, h1.1]; exact zok_lt hk2) rfl (fun ls' hl' => ?_)
        exact hk ls' rst H locs (by rw [hl'.1]) (zLoc_st1 h1 h0 hv hk2 hl') h2a h3 h4
      | some q =>
        refine lv_astore_n hC.1 hC.2.1 hdg rfl (zall_has h0 h1.2.1) (by rw [← h0, h1.1]; exact zok_lt hk2) rfl (fun ls' hl' => ?_)
        exact hk ls' rst H locs (by rw [hl'.1]) (zLoc_st1 h1 h0 hv hk2 hl') h2a h3 h4
    · cases hs
  · cases hs
theorem zs_iinc {p : Program} {l : Launch} {e : Env} {R : Room} {s : State} {m : MethodId} {args : Array Value} {below : List Frame} {meth : Method} {c : Code} {Q : State → Prop} {K : zK} {ph : Bool} {c0 s0 : Int} {gs : zG} {own nm : String} {cc : ByteArray} {pc : Nat} {L st : List zV} {M : zM} {k : Nat} {n : Int} {L' st' : List zV} (hC : zCtx K own nm cc p s m args meth c) (hdg : decode cc pc = .ok (.iinc k n, 3)) (hs : zF0_inc k n L st = some (L', st')) (hk : zGo p l e R s m args below meth c Q K ph c0 s0 gs (pc + 3) L' st' M) :
    zGo p l e R s m args below meth c Q K ph c0 s0 gs pc L st M := by
  unfold zF0_inc at hs
  split at hs
  · rename_i x w hx
    split at hs
    · rename_i hk2
      cases hs
      intro ls rst H locs h0 h1 h2 h3 h4
      obtain ⟨rv, hv, hl⟩ := h1.2.2 _ _ (znth_get hx (by dsimp only; omega)) (by dsimp only; omega)
      obtain ⟨i, rfl, hi⟩ := zVR_i hv
      obtain ⟨z, hz⟩ := List.getElem?_of_mem (zall_mem.mpr hl)
      refine lv_iinc hC.1 hC.2.1 hdg (zall_has h0 h1.2.1) hz rfl (by rw [← h0, h1.1]; exact zok_lt hk2) rfl (fun ls' hl' => ?_)
      refine hk ls' rst H locs (by rw [hl'.1]) (zLoc_st1 h1 h0 (zVR_mki _ ?_) hk2 hl') h2 h3 h4
      rw [Int32.toInt_add, Int32.toInt_ofInt, hi]
      unfold z32
      rw [Int.add_bmod_bmod]
    · cases hs
  · cases hs
theorem zs_iadd {p : Program} {l : Launch} {e : Env} {R : Room} {s : State} {m : MethodId} {args : Array Value} {below : List Frame} {meth : Method} {c : Code} {Q : State → Prop} {K : zK} {ph : Bool} {c0 s0 : Int} {gs : zG} {own nm : String} {cc : ByteArray} {pc : Nat} {L st : List zV} {M : zM} {st' : List zV} (hC : zCtx K own nm cc p s m args meth c) (hdg : decode cc pc = .ok (.iadd, 1)) (hs : zF1_2 10 st = some st') (hk : zGo p l e R s m args below meth c Q K ph c0 s0 gs (pc + 1) L st' M) :
    zGo p l e R s m args below meth c Q K ph c0 s0 gs pc L st M := by
  unfold zF1_2 at hs
  split at hs
  · rename_i b y a x st
    split at hs
    · cases hs
    · rename_i hn
      cases hs
      intro ls rst H locs h0 h1 h2 h3 h4
      obtain ⟨rv, rst, rfl, hv, h2a⟩ := zVRs_cons h2
      obtain ⟨rw', rst, rfl, hw, h2b⟩ := zVRs_cons h2a
      obtain ⟨j, rfl, hj⟩ := zVR_i hv
      obtain ⟨i, rfl, hi⟩ := zVR_i hw
      refine lv_iadd hC.1 hC.2.1 hdg ?_
      refine hk ls (_ :: rst) H locs h0 h1 ⟨zVR_mki _ ?_, h2b⟩ h3 h4
      subst hi; subst hj
      show _ = z32 (i.toInt + j.toInt)
      exact Int32.toInt_add i j
  · cases hs
theorem zs_isub {p : Program} {l : Launch} {e : Env} {R : Room} {s : State} {m : MethodId} {args : Array Value} {below : List Frame} {meth : Method} {c : Code} {Q : State → Prop} {K : zK} {ph : Bool} {c0 s0 : Int} {gs : zG} {own nm : String} {cc : ByteArray} {pc : Nat} {L st : List zV} {M : zM} {st' : List zV} (hC : zCtx K own nm cc p s m args meth c) (hdg : decode cc pc = .ok (.isub, 1)) (hs : zF1_2 11 st = some st') (hk : zGo p l e R s m args below meth c Q K ph c0 s0 gs (pc + 1) L st' M) :
    zGo p l e R s m args below meth c Q K ph c0 s0 gs pc L st M := by
  unfold zF1_2 at hs
  split at hs
  · rename_i b y a x st
    split at hs
    · cases hs
    · rename_i hn
      cases hs
      intro ls rst H locs h0 h1 h2 h3 h4
      obtain ⟨rv, rst, rfl, hv, h2a⟩ := zVRs_cons h2
      obtain ⟨rw', rst, rfl, hw, h2b⟩ := zVRs_cons h2a
      obtain ⟨j, rfl, hj⟩ := zVR_i hv
      obtain ⟨i, rfl, hi⟩ := zVR_i hw
      refine lv_isub hC.1 hC.2.1 hdg ?_
      refine hk ls (_ :: rst) H locs h0 h1 ⟨zVR_mki _ ?_, h2b⟩ h3 h4
      subst hi; subst hj
      show _ = z32 (i.toInt - j.toInt)
      exact Int32.toInt_sub i j
  · cases hs
theorem zs_imul {p : Program} {l : Launch} {e : Env} {R : Room} {s : State} {m : MethodId} {args : Array Value} {below : List Frame} {meth : Method} {c : Code} {Q : State → Prop} {K : zK} {ph : Bool} {c0 s0 : Int} {gs : zG} {own nm : String} {cc : ByteArray} {pc : Nat} {L st : List zV} {M : zM} {st' : List zV} (hC : zCtx K own nm cc p s m args meth c) (hdg : decode cc pc = .ok (.imul, 1)) (hs : zF1_2 12 st = some st') (hk : zGo p l e R s m args below meth c Q K ph c0 s0 gs (pc + 1) L st' M) :
    zGo p l e R s m args below meth c Q K ph c0 s0 gs pc L st M := by
  unfold zF1_2 at hs
  split at hs
  · rename_i b y a x st
    split at hs
    · cases hs
    · rename_i hn
      cases hs
      intro ls rst H locs h0 h1 h2 h3 h4
      obtain ⟨rv, rst, rfl, hv, h2a⟩ := zVRs_cons h2
      obtain ⟨rw', rst, rfl, hw, h2b⟩ := zVRs_cons h2a
      obtain ⟨j, rfl, hj⟩ := zVR_i hv
      obtain ⟨i, rfl, hi⟩ := zVR_i hw
      refine lv_imul hC.1 hC.2.1 hdg ?_
      refine hk ls (_ :: rst) H locs h0 h1 ⟨zVR_mki _ ?_, h2b⟩ h3 h4
      subst hi; subst hj
      show _ = z32 (i.toInt * j.toInt)
      exact Int32.toInt_mul i j
  · cases hs
theorem zs_idiv {p : Program} {l : Launch} {e : Env} {R : Room} {s : State} {m : MethodId} {args : Array Value} {below : List Frame} {meth : Method} {c : Code} {Q : State → Prop} {K : zK} {ph : Bool} {c0 s0 : Int} {gs : zG} {own nm : String} {cc : ByteArray} {pc : Nat} {L st : List zV} {M : zM} {st' : List zV} (hC : zCtx K own nm cc p s m args meth c) (hdg : decode cc pc = .ok (.idiv, 1)) (hs : zF1_2 13 st = some st') (hk : zGo p l e R s m args below meth c Q K ph c0 s0 gs (pc + 1) L st' M) :
    zGo p l e R s m args below meth c Q K ph c0 s0 gs pc L st M := by
  unfold zF1_2 at hs
  split at hs
  · rename_i b y a x st
    split at hs
    · cases hs
    · rename_i hn
      cases hs
      intro ls rst H locs h0 h1 h2 h3 h4
      obtain ⟨rv, rst, rfl, hv, h2a⟩ := zVRs_cons h2
      obtain ⟨rw', rst, rfl, hw, h2b⟩ := zVRs_cons h2a
      obtain ⟨j, rfl, hj⟩ := zVR_i hv
      obtain ⟨i, rfl, hi⟩ := zVR_i hw
      refine lv_idiv hC.1 hC.2.1 hdg (fun z => hn ⟨by decide, by rw [← hj, z]; rfl⟩) ?_
      refine hk ls (_ :: rst) H locs h0 h1 ⟨zVR_mki _ ?_, h2b⟩ h3 h4
      subst hi; subst hj
      show _ = z32 (Int.tdiv i.toInt j.toInt)
      exact Int32.toInt_div i j
  · cases hs
theorem zs_irem {p : Program} {l : Launch} {e : Env} {R : Room} {s : State} {m : MethodId} {args : Array Value} {below : List Frame} {meth : Method} {c : Code} {Q : State → Prop} {K : zK} {ph : Bool} {c0 s0 : Int} {gs : zG} {own nm : String} {cc : ByteArray} {pc : Nat} {L st : List zV} {M : zM} {st' : List zV} (hC : zCtx K own nm cc p s m args meth c) (hdg : decode cc pc = .ok (.irem, 1)) (hs : zF1_2 14 st = some st') (hk : zGo p l e R s m args below meth c Q K ph c0 s0 gs (pc + 1) L st' M) :
    zGo p l e R s m args below meth c Q K ph c0 s0 gs pc L st M := by
  unfold zF1_2 at hs
  split at hs
  · rename_i b y a x st
    split at hs
    · cases hs
    · rename_i hn
      cases hs
      intro ls rst H locs h0 h1 h2 h3 h4
      obtain ⟨rv, rst, rfl, hv, h2a⟩ := zVRs_cons h2
      obtain ⟨rw', rst, rfl, hw, h2b⟩ := zVRs_cons h2a
      obtain ⟨j, rfl, hj⟩ := zVR_i hv
      obtain ⟨i, rfl, hi⟩ := zVR_i hw
      refine lv_irem hC.1 hC.2.1 hdg (fun z => hn ⟨by decide, by rw [← hj, z]; rfl⟩) ?_
      refine hk ls (_ :: rst) H locs h0 h1 ⟨zVR_mki _ ?_, h2b⟩ h3 h4
      subst hi; subst hj
      show _ = zrem i.toInt j.toInt
      unfold zrem z32; rw [Int32.toInt_sub, Int32.toInt_mul, Int32.toInt_div]
  · cases hs
theorem zs_iand {p : Program} {l : Launch} {e : Env} {R : Room} {s : State} {m : MethodId} {args : Array Value} {below : List Frame} {meth : Method} {c : Code} {Q : State → Prop} {K : zK} {ph : Bool} {c0 s0 : Int} {gs : zG} {own nm : String} {cc : ByteArray} {pc : Nat} {L st : List zV} {M : zM} {st' : List zV} (hC : zCtx K own nm cc p s m args meth c) (hdg : decode cc pc = .ok (.iand, 1)) (hs : zF1_2 16 st = some st') (hk : zGo p l e R s m args below meth c Q K ph c0 s0 gs (pc + 1) L st' M) :
    zGo p l e R s m args below meth c Q K ph c0 s0 gs pc L st M := by
  unfold zF1_2 at hs
  split at hs
  · rename_i b y a x st
    split at hs
    · cases hs
    · rename_i hn
      cases hs
      intro ls rst H locs h0 h1 h2 h3 h4
      obtain ⟨rv, rst, rfl, hv, h2a⟩ := zVRs_cons h2
      obtain ⟨rw', rst, rfl, hw, h2b⟩ := zVRs_cons h2a
      obtain ⟨j, rfl, hj⟩ := zVR_i hv
      obtain ⟨i, rfl, hi⟩ := zVR_i hw
      refine lv_iand hC.1 hC.2.1 hdg ?_
      refine hk ls (_ :: rst) H locs h0 h1 ⟨zVR_mki _ ?_, h2b⟩ h3 h4
      subst hi; subst hj
      show _ = zand i.toInt j.toInt
      simp only [zand, zb, Int32.ofInt_toInt]
  · cases hs
theorem zs_ior {p : Program} {l : Launch} {e : Env} {R : Room} {s : State} {m : MethodId} {args : Array Value} {below : List Frame} {meth : Method} {c : Code} {Q : State → Prop} {K : zK} {ph : Bool} {c0 s0 : Int} {gs : zG} {own nm : String} {cc : ByteArray} {pc : Nat} {L st : List zV} {M : zM} {st' : List zV} (hC : zCtx K own nm cc p s m args meth c) (hdg : decode cc pc = .ok (.ior, 1)) (hs : zF1_2 17 st = some st') (hk : zGo p l e R s m args below meth c Q K ph c0 s0 gs (pc + 1) L st' M) :
    zGo p l e R s m args below meth c Q K ph c0 s0 gs pc L st M := by
  unfold zF1_2 at hs
  split at hs
  · rename_i b y a x st
    split at hs
    · cases hs
    · rename_i hn
      cases hs
      intro ls rst H locs h0 h1 h2 h3 h4
      obtain ⟨rv, rst, rfl, hv, h2a⟩ := zVRs_cons h2
      obtain ⟨rw', rst, rfl, hw, h2b⟩ := zVRs_cons h2a
      obtain ⟨j, rfl, hj⟩ := zVR_i hv
      obtain ⟨i, rfl, hi⟩ := zVR_i hw
      refine lv_ior hC.1 hC.2.1 hdg ?_
      refine hk ls (_ :: rst) H locs h0 h1 ⟨zVR_mki _ ?_, h2b⟩ h3 h4
      subst hi; subst hj
      show _ = zor i.toInt j.toInt
      simp only [zor, zb, Int32.ofInt_toInt]
  · cases hs
theorem zs_ixor {p : Program} {l : Launch} {e : Env} {R : Room} {s : State} {m : MethodId} {args : Array Value} {below : List Frame} {meth : Method} {c : Code} {Q : State → Prop} {K : zK} {ph : Bool} {c0 s0 : Int} {gs : zG} {own nm : String} {cc : ByteArray} {pc : Nat} {L st : List zV} {M : zM} {st' : List zV} (hC : zCtx K own nm cc p s m args meth c) (hdg : decode cc pc = .ok (.ixor, 1)) (hs : zF1_2 18 st = some st') (hk : zGo p l e R s m args below meth c Q K ph c0 s0 gs (pc + 1) L st' M) :
    zGo p l e R s m args below meth c Q K ph c0 s0 gs pc L st M := by
  unfold zF1_2 at hs
  split at hs
  · rename_i b y a x st
    split at hs
    · cases hs
    · rename_i hn
      cases hs
      intro ls rst H locs h0 h1 h2 h3 h4
      obtain ⟨rv, rst, rfl, hv, h2a⟩ := zVRs_cons h2
      obtain ⟨rw', rst, rfl, hw, h2b⟩ := zVRs_cons h2a
      obtain ⟨j, rfl, hj⟩ := zVR_i hv
      obtain ⟨i, rfl, hi⟩ := zVR_i hw
      refine lv_ixor hC.1 hC.2.1 hdg ?_
      refine hk ls (_ :: rst) H locs h0 h1 ⟨zVR_mki _ ?_, h2b⟩ h3 h4
      subst hi; subst hj
      show _ = zxor i.toInt j.toInt
      simp only [zxor, zb, Int32.ofInt_toInt]
  · cases hs
theorem zs_ishl {p : Program} {l : Launch} {e : Env} {R : Room} {s : State} {m : MethodId} {args : Array Value} {below : List Frame} {meth : Method} {c : Code} {Q : State → Prop} {K : zK} {ph : Bool} {c0 s0 : Int} {gs : zG} {own nm : String} {cc : ByteArray} {pc : Nat} {L st : List zV} {M : zM} {st' : List zV} (hC : zCtx K own nm cc p s m args meth c) (hdg : decode cc pc = .ok (.ishl, 1)) (hs : zF1_2 19 st = some st') (hk : zGo p l e R s m args below meth c Q K ph c0 s0 gs (pc + 1) L st' M) :
    zGo p l e R s m args below meth c Q K ph c0 s0 gs pc L st M := by
  unfold zF1_2 at hs
  split at hs
  · rename_i b y a x st
    split at hs
    · cases hs
    · rename_i hn
      cases hs
      intro ls rst H locs h0 h1 h2 h3 h4
      obtain ⟨rv, rst, rfl, hv, h2a⟩ := zVRs_cons h2
      obtain ⟨rw', rst, rfl, hw, h2b⟩ := zVRs_cons h2a
      obtain ⟨j, rfl, hj⟩ := zVR_i hv
      obtain ⟨i, rfl, hi⟩ := zVR_i hw
      refine lv_ishl hC.1 hC.2.1 hdg ?_
      refine hk ls (_ :: rst) H locs h0 h1 ⟨zVR_mki _ ?_, h2b⟩ h3 h4
      subst hi; subst hj
      show _ = zshl i.toInt j.toInt
      simp only [zshl, zb, Int32.ofInt_toInt]
  · cases hs
theorem zs_ishr {p : Program} {l : Launch} {e : Env} {R : Room} {s : State} {m : MethodId} {args : Array Value} {below : List Frame} {meth : Method} {c : Code} {Q : State → Prop} {K : zK} {ph : Bool} {c0 s0 : Int} {gs : zG} {own nm : String} {cc : ByteArray} {pc : Nat} {L st : List zV} {M : zM} {st' : List zV} (hC : zCtx K own nm cc p s m args meth c) (hdg : decode cc pc = .ok (.ishr, 1)) (hs : zF1_2 20 st = some st') (hk : zGo p l e R s m args below meth c Q K ph c0 s0 gs (pc + 1) L st' M) :
    zGo p l e R s m args below meth c Q K ph c0 s0 gs pc L st M := by
  unfold zF1_2 at hs
  split at hs
  · rename_i b y a x st
    split at hs
    · cases hs
    · rename_i hn
      cases hs
      intro ls rst H locs h0 h1 h2 h3 h4
      obtain ⟨rv, rst, rfl, hv, h2a⟩ := zVRs_cons h2
      obtain ⟨rw', rst, rfl, hw, h2b⟩ := zVRs_cons h2a
      obtain ⟨j, rfl, hj⟩ := zVR_i hv
      obtain ⟨i, rfl, hi⟩ := zVR_i hw
      refine lv_ishr hC.1 hC.2.1 hdg ?_
      refine hk ls (_ :: rst) H locs h0 h1 ⟨zVR_mki _ ?_, h2b⟩ h3 h4
      subst hi; subst hj
      show _ = zshr i.toInt j.toInt
      simp only [zshr, zb, Int32.ofInt_toInt]
  · cases hs
theorem zs_iushr {p : Program} {l : Launch} {e : Env} {R : Room} {s : State} {m : MethodId} {args : Array Value} {below : List Frame} {meth : Method} {c : Code} {Q : State → Prop} {K : zK} {ph : Bool} {c0 s0 : Int} {gs : zG} {own nm : String} {cc : ByteArray} {pc : Nat} {L st : List zV} {M : zM} {st' : List zV} (hC : zCtx K own nm cc p s m args meth c) (hdg : decode cc pc = .ok (.iushr, 1)) (hs : zF1_2 21 st = some st') (hk : zGo p l e R s m args below meth c Q K ph c0 s0 gs (pc + 1) L st' M) :
    zGo p l e R s m args below meth c Q K ph c0 s0 gs pc L st M := by
  unfold zF1_2 at hs
  split at hs
  · rename_i b y a x st
    split at hs
    · cases hs
    · rename_i hn
      cases hs
      intro ls rst H locs h0 h1 h2 h3 h4
      obtain ⟨rv, rst, rfl, hv, h2a⟩ := zVRs_cons h2
      obtain ⟨rw', rst, rfl, hw, h2b⟩ := zVRs_cons h2a
      obtain ⟨j, rfl, hj⟩ := zVR_i hv
      obtain ⟨i, rfl, hi⟩ := zVR_i hw
      refine lv_iushr hC.1 hC.2.1 hdg rfl ?_
      refine hk ls (_ :: rst) H locs h0 h1 ⟨zVR_mki _ ?_, h2b⟩ h3 h4
      subst hi; subst hj
      show _ = zush i.toInt j.toInt
      simp only [zush, zb, Int32.ofInt_toInt]
  · cases hs
theorem zs_ladd {p : Program} {l : Launch} {e : Env} {R : Room} {s : State} {m : MethodId} {args : Array Value} {below : List Frame} {meth : Method} {c : Code} {Q : State → Prop} {K : zK} {ph : Bool} {c0 s0 : Int} {gs : zG} {own nm : String} {cc : ByteArray} {pc : Nat} {L st : List zV} {M : zM} {st' : List zV} (hC : zCtx K own nm cc p s m args meth c) (hdg : decode cc pc = .ok (.ladd, 1)) (hs : zF1_l 22 st = some st') (hk : zGo p l e R s m args below meth c Q K ph c0 s0 gs (pc + 1) L st' M) :
    zGo p l e R s m args below meth c Q K ph c0 s0 gs pc L st M := by
  unfold zF1_l at hs
  split at hs
  · rename_i b y a x st
    split at hs
    · cases hs
    · rename_i hn
      cases hs
      intro ls rst H locs h0 h1 h2 h3 h4
      obtain ⟨rv, rst, rfl, hv, h2a⟩ := zVRs_cons h2
      obtain ⟨rw', rst, rfl, hw, h2b⟩ := zVRs_cons h2a
      obtain ⟨j, rfl, hj⟩ := zVR_l hv
      obtain ⟨i, rfl, hi⟩ := zVR_l hw
      refine lv_ladd hC.1 hC.2.1 hdg ?_
      refine hk ls (_ :: rst) H locs h0 h1 ⟨zVR_mkl _ ?_, h2b⟩ h3 h4
      subst hi; subst hj
      show _ = z64 (i.toInt + j.toInt)
      exact Int64.toInt_add i j
  · cases hs
theorem zs_lsub {p : Program} {l : Launch} {e : Env} {R : Room} {s : State} {m : MethodId} {args : Array Value} {below : List Frame} {meth : Method} {c : Code} {Q : State → Prop} {K : zK} {ph : Bool} {c0 s0 : Int} {gs : zG} {own nm : String} {cc : ByteArray} {pc : Nat} {L st : List zV} {M : zM} {st' : List zV} (hC : zCtx K own nm cc p s m args meth c) (hdg : decode cc pc = .ok (.lsub, 1)) (hs : zF1_l 23 st = some st') (hk : zGo p l e R s m args below meth c Q K ph c0 s0 gs (pc + 1) L st' M) :
    zGo p l e R s m args below meth c Q K ph c0 s0 gs pc L st M := by
  unfold zF1_l at hs
  split at hs
  · rename_i b y a x st
    split at hs
    · cases hs
    · rename_i hn
      cases hs
      intro ls rst H locs h0 h1 h2 h3 h4
      obtain ⟨rv, rst, rfl, hv, h2a⟩ := zVRs_cons h2
      obtain ⟨rw', rst, rfl, hw, h2b⟩ := zVRs_cons h2a
      obtain ⟨j, rfl, hj⟩ := zVR_l hv
      obtain ⟨i, rfl, hi⟩ := zVR_l hw
      refine lv_lsub hC.1 hC.2.1 hdg ?_
      refine hk ls (_ :: rst) H locs h0 h1 ⟨zVR_mkl _ ?_, h2b⟩ h3 h4
      subst hi; subst hj
      show _ = z64 (i.toInt - j.toInt)
      exact Int64.toInt_sub i j
  · cases hs
theorem zs_lmul {p : Program} {l : Launch} {e : Env} {R : Room} {s : State} {m : MethodId} {args : Array Value} {below : List Frame} {meth : Method} {c : Code} {Q : State → Prop} {K : zK} {ph : Bool} {c0 s0 : Int} {gs : zG} {own nm : String} {cc : ByteArray} {pc : Nat} {L st : List zV} {M : zM} {st' : List zV} (hC : zCtx K own nm cc p s m args meth c) (hdg : decode cc pc = .ok (.lmul, 1)) (hs : zF1_l 24 st = some st') (hk : zGo p l e R s m args below meth c Q K ph c0 s0 gs (pc + 1) L st' M) :
    zGo p l e R s m args below meth c Q K ph c0 s0 gs pc L st M := by
  unfold zF1_l at hs
  split at hs
  · rename_i b y a x st
    split at hs
    · cases hs
    · rename_i hn
      cases hs
      intro ls rst H locs h0 h1 h2 h3 h4
      obtain ⟨rv, rst, rfl, hv, h2a⟩ := zVRs_cons h2
      obtain ⟨rw', rst, rfl, hw, h2b⟩ := zVRs_cons h2a
      obtain ⟨j, rfl, hj⟩ := zVR_l hv
      obtain ⟨i, rfl, hi⟩ := zVR_l hw
      refine lv_lmul hC.1 hC.2.1 hdg ?_
      refine hk ls (_ :: rst) H locs h0 h1 ⟨zVR_mkl _ ?_, h2b⟩ h3 h4
      subst hi; subst hj
      show _ = z64 (i.toInt * j.toInt)
      exact Int64.toInt_mul i j
  · cases hs
theorem zs_ldiv {p : Program} {l : Launch} {e : Env} {R : Room} {s : State} {m : MethodId} {args : Array Value} {below : List Frame} {meth : Method} {c : Code} {Q : State → Prop} {K : zK} {ph : Bool} {c0 s0 : Int} {gs : zG} {own nm : String} {cc : ByteArray} {pc : Nat} {L st : List zV} {M : zM} {st' : List zV} (hC : zCtx K own nm cc p s m args meth c) (hdg : decode cc pc = .ok (.ldiv, 1)) (hs : zF1_l 25 st = some st') (hk : zGo p l e R s m args below meth c Q K ph c0 s0 gs (pc + 1) L st' M) :
    zGo p l e R s m args below meth c Q K ph c0 s0 gs pc L st M := by
  unfold zF1_l at hs
  split at hs
  · rename_i b y a x st
    split at hs
    · cases hs
    · rename_i hn
      cases hs
      intro ls rst H locs h0 h1 h2 h3 h4
      obtain ⟨rv, rst, rfl, hv, h2a⟩ := zVRs_cons h2
      obtain ⟨rw', rst, rfl, hw, h2b⟩ := zVRs_cons h2a
      obtain ⟨j, rfl, hj⟩ := zVR_l hv
      obtain ⟨i, rfl, hi⟩ := zVR_l hw
      refine lv_ldiv hC.1 hC.2.1 hdg (fun z => hn ⟨by decide, by rw [← hj, z]; rfl⟩) ?_
      refine hk ls (_ :: rst) H locs h0 h1 ⟨zVR_mkl _ ?_, h2b⟩ h3 h4
      subst hi; subst hj
      show _ = z64 (Int.tdiv i.toInt j.toInt)
      exact Int64.toInt_div i j
  · cases hs
theorem zs_lrem {p : Program} {l : Launch} {e : Env} {R : Room} {s : State} {m : MethodId} {args : Array Value} {below : List Frame} {meth : Method} {c : Code} {Q : State → Prop} {K : zK} {ph : Bool} {c0 s0 : Int} {gs : zG} {own nm : String} {cc : ByteArray} {pc : Nat} {L st : List zV} {M : zM} {st' : List zV} (hC : zCtx K own nm cc p s m args meth c) (hdg : decode cc pc = .ok (.lrem, 1)) (hs : zF1_l 26 st = some st') (hk : zGo p l e R s m args below meth c Q K ph c0 s0 gs (pc + 1) L st' M) :
    zGo p l e R s m args below meth c Q K ph c0 s0 gs pc L st M := by
  unfold zF1_l at hs
  split at hs
  · rename_i b y a x st
    split at hs
    · cases hs
    · rename_i hn
      cases hs
      intro ls rst H locs h0 h1 h2 h3 h4
      obtain ⟨rv, rst, rfl, hv, h2a⟩ := zVRs_cons h2
      obtain ⟨rw', rst, rfl, hw, h2b⟩ := zVRs_cons h2a
      obtain ⟨j, rfl, hj⟩ := zVR_l hv
      obtain ⟨i, rfl, hi⟩ := zVR_l hw
      refine lv_lrem hC.1 hC.2.1 hdg (fun z => hn ⟨by decide, by rw [← hj, z]; rfl⟩) ?_
      refine hk ls (_ :: rst) H locs h0 h1 ⟨zVR_mkl _ ?_, h2b⟩ h3 h4
      subst hi; subst hj
      show _ = zlrem i.toInt j.toInt
      unfold zlrem z64; rw [Int64.toInt_sub, Int64.toInt_mul, Int64.toInt_div]
  · cases hs
theorem zs_land {p : Program} {l : Launch} {e : Env} {R : Room} {s : State} {m : MethodId} {args : Array Value} {below : List Frame} {meth : Method} {c : Code} {Q : State → Prop} {K : zK} {ph : Bool} {c0 s0 : Int} {gs : zG} {own nm : String} {cc : ByteArray} {pc : Nat} {L st : List zV} {M : zM} {st' : List zV} (hC : zCtx K own nm cc p s m args meth c) (hdg : decode cc pc = .ok (.land, 1)) (hs : zF1_l 32 st = some st') (hk : zGo p l e R s m args below meth c Q K ph c0 s0 gs (pc + 1) L st' M) :
    zGo p l e R s m args below meth c Q K ph c0 s0 gs pc L st M := by
  unfold zF1_l at hs
  split at hs
  · rename_i b y a x st
    split at hs
    · cases hs
    · rename_i hn
      cases hs
      intro ls rst H locs h0 h1 h2 h3 h4
      obtain ⟨rv, rst, rfl, hv, h2a⟩ := zVRs_cons h2
      obtain ⟨rw', rst, rfl, hw, h2b⟩ := zVRs_cons h2a
      obtain ⟨j, rfl, hj⟩ := zVR_l hv
      obtain ⟨i, rfl, hi⟩ := zVR_l hw
      refine lv_land hC.1 hC.2.1 hdg ?_
      refine hk ls (_ :: rst) H locs h0 h1 ⟨zVR_mkl _ ?_, h2b⟩ h3 h4
      subst hi; subst hj
      show _ = zlan i.toInt j.toInt
      simp only [zlan, zl, Int64.ofInt_toInt]
  · cases hs
theorem zs_lor {p : Program} {l : Launch} {e : Env} {R : Room} {s : State} {m : MethodId} {args : Array Value} {below : List Frame} {meth : Method} {c : Code} {Q : State → Prop} {K : zK} {ph : Bool} {c0 s0 : Int} {gs : zG} {own nm : String} {cc : ByteArray} {pc : Nat} {L st : List zV} {M : zM} {st' : List zV} (hC : zCtx K own nm cc p s m args meth c) (hdg : decode cc pc = .ok (.lor, 1)) (hs : zF1_l 33 st = some st') (hk : zGo p l e R s m args below meth c Q K ph c0 s0 gs (pc + 1) L st' M) :
    zGo p l e R s m args below meth c Q K ph c0 s0 gs pc L st M := by
  unfold zF1_l at hs
  split at hs
  · rename_i b y a x st
    split at hs
    · cases hs
    · rename_i hn
      cases hs
      intro ls rst H locs h0 h1 h2 h3 h4
      obtain ⟨rv, rst, rfl, hv, h2a⟩ := zVRs_cons h2
      obtain ⟨rw', rst, rfl, hw, h2b⟩ := zVRs_cons h2a
      obtain ⟨j, rfl, hj⟩ := zVR_l hv
      obtain ⟨i, rfl, hi⟩ := zVR_l hw
      refine lv_lor hC.1 hC.2.1 hdg ?_
      refine hk ls (_ :: rst) H locs h0 h1 ⟨zVR_mkl _ ?_, h2b⟩ h3 h4
      subst hi; subst hj
      show _ = zlor i.toInt j.toInt
      simp only [zlor, zl, Int64.ofInt_toInt]
  · cases hs
