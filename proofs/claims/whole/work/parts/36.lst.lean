/-! a long's store -/
theorem zLoc_st2 {K : zK} {gs : zG} {L : List zV} {ls ls' : Array Slot} {k n : Nat} {v : zV} {rv : Value} (h : zLoc K gs L ls) (hn : ls.size = n) (hv : zVR K gs v rv) (hk : zok L k = true) (hk1 : k + 1 < L.length)
    (h' : lv_has ls' n ((k, rv) :: (zall ls).filter (fun q => !(q.1 == k) && (!(q.1 == k + 1) && !(q.1 + 1 == k && q.2.category == 2))))) : zLoc K gs (zset (zset L k v) (k + 1) (3, 0, 0)) ls' := by
  obtain ⟨a1, a2, a3⟩ := h
  obtain ⟨b1, b2, b3⟩ := h'
  refine ⟨by rw [zset_len, zset_len, b1, ← hn]; exact a1, b2, fun i w hi hw => ?_⟩
  rw [zset_get, zset_get, zset_len] at hi
  by_cases hik1 : i = k + 1
  · rw [if_pos ⟨hik1, hk1⟩] at hi
    cases hi
    exact absurd rfl hw
  rw [if_neg (fun z => hik1 z.1)] at hi
  by_cases hik : i = k
  · rw [if_pos ⟨hik, zok_lt hk⟩] at hi
    cases hi
    subst hik
    exact ⟨rv, hv, b3 (i, rv) List.mem_cons_self⟩
  · rw [if_neg (fun z => hik z.1)] at hi
    obtain ⟨rw', c1, c2⟩ := a3 i w hi hw
    refine ⟨rw', c1, b3 (i, rw') (List.mem_cons_of_mem _ (List.mem_filter.mpr ⟨zall_mem.mpr c2, ?_⟩))⟩
    simp only [Bool.and_eq_true, Bool.not_eq_true', beq_eq_false_iff_ne, ne_eq, Bool.and_eq_false_iff]
    refine ⟨hik, hik1, ?_⟩
    by_cases h2 : i + 1 = k
    · refine Or.inr fun z => ?_
      subst h2
      have h3 := zok_prev hk hi
      have h4 := zVR_cat (t := w.1) (x := w.2.1) (n := w.2.2) c1
      rw [if_neg h3] at h4
      omega
    · exact Or.inl h2
theorem zs_lstore {p : Program} {l : Launch} {e : Env} {R : Room} {s : State} {m : MethodId} {args : Array Value} {below : List Frame} {meth : Method} {c : Code} {Q : State → Prop} {K : zK} {ph : Bool} {c0 s0 : Int} {gs : zG} {own nm : String} {cc : ByteArray} {pc : Nat} {L st : List zV} {M : zM} {k : Nat} {L' st' : List zV} (hC : zCtx K own nm cc p s m args meth c) (hdg : decode cc pc = .ok (.lstore k, 2)) (hs : zF0_ls k L st = some (L', st')) (hk : zGo p l e R s m args below meth c Q K ph c0 s0 gs (pc + 2) L' st' M) : zGo p l e R s m args below meth c Q K ph c0 s0 gs pc L st M := by
  unfold zF0_ls at hs
  split at hs
  · rename_i x n st
    split at hs
    · rename_i hk2
      cases hs
      intro ls rst H locs h0 h1 h2 h3 h4
      obtain ⟨rv, rst, rfl, hv, h2a⟩ := zVRs_cons h2
      obtain ⟨i, rfl, hi⟩ := zVR_l hv
      refine lv_lstore hC.1 hC.2.1 hdg (zall_has h0 h1.2.1) (by rw [← h0, h1.1]; exact hk2.2) rfl (fun ls' hl' => ?_)
      exact hk ls' rst H locs (by rw [hl'.1]) (zLoc_st2 h1 h0 (zVR_mkl i hi) hk2.1 hk2.2 hl') h2a h3 h4
    · cases hs
  · cases hs
