/-! a run with any end; hand and question where they throw -/
/-- what a throw wants of a state -/
def zTh (K : zK) (U : State) : Prop := vx_Zq Bundle.tN "UNASSIGNED_STACK" Bundle.steD (zA K) U U.heap ∧ vx_Zq Bundle.tN "SUPPRESSED_SENTINEL" Bundle.listD (zA K) U U.heap ∧ va_Nw (.castable zxE zxE) U ∧ va_Nw (.declares (Bundle.initS zxS)) U ∧ va_Nw (.declares (Bundle.initS "java/lang/Exception")) U ∧ va_Nw (.declares (Bundle.initS Bundle.tN)) U
theorem zTh_moved {K : zK} {s U : State} (h : zTh K s) (hW : s.WarmedH U.vm) (hq : ∀ a : Nat, a < s.heap.size → ¬ zA K a → U.heap[a]? = s.heap[a]?) : zTh K U := by
  obtain ⟨h1, h2, h3, h4, h5, h6⟩ := h
  exact ⟨(vx_Zq.moved hW.alike h1).kept hq, (vx_Zq.moved hW.alike h2).kept hq, va_Nw.warmC hW h3, va_Nw.warmD hW h4, va_Nw.warmD hW h5, va_Nw.warmD hW h6⟩
def zxX : List Cond := [.castable zxE zxE, .declares (Bundle.initS zxS), .declares (Bundle.initS "java/lang/Exception"), .declares (Bundle.initS Bundle.tN)]
set_option maxRecDepth 20000 in
theorem zxN_in : zxN.all (fun w => decide (w ∈ zwl) || decide (w ∈ zxX)) = true := by decide +kernel
set_option maxRecDepth 20000 in
theorem zxC_in : Cond.classLink "ClogVotes" 120 zxE ∈ zwl ∧ Cond.initialized zxE ∈ zwl := ⟨zwl_of (by decide +kernel) rfl, zwl_of (by decide +kernel) rfl⟩
theorem zTh_words {K : zK} {s : State} {args : Array Value} (h1 : ∀ w ∈ zwl, w.before args s = true) (h2 : zTh K s) : ∀ w ∈ zxN, w.before args s = true := by
  intro w hw
  have h := List.all_eq_true.mp zxN_in w hw
  rw [Bool.or_eq_true] at h
  rcases h with h | h
  · exact h1 w (of_decide_eq_true h)
  · have h := of_decide_eq_true h
    obtain ⟨-, -, h3, h4, h5, h6⟩ := h2
    simp only [zxX, List.mem_cons, List.not_mem_nil, or_false] at h
    rcases h with rfl | rfl | rfl | rfl
    · exact va_Nw.use rfl h3
    · exact va_Nw.use rfl h4
    · exact va_Nw.use rfl h5
    · exact va_Nw.use rfl h6
/-- a run of the small machine is a run of the real one, whatever its end -/
theorem zrunG (I : Nat → List zV → Prop) {p : Program} {l : Launch} {e : Env} {R : Room} {s : State} {m : MethodId} {args : Array Value} {below : List Frame} {meth : Method} {c : Code} {Q : State → Prop} {K : zK} {ph : Bool} {c0 s0 : Int} {gs0 : zG} {d j : Nat} {q : zME} {v : zV} {M' : zM}
    (hT : zokJ j = true) (hq : zmt j = some q) (hC : zCtx K (zow q.2.2.2.2) q.1.name q.2.1 p s m args meth c) (hd : zOK l K ph d) (hR : d + 1 ≤ R.frames ∧ 60 * (d + 1) ≤ R.locals) (hlim : (M' (-1) 1 - c0).toNat ≤ R.cells ∧ (M' (-1) 2 - s0).toNat ≤ R.slots)
    (hx : ∀ (gx : zG) (pc tg i' : Nat) (L st st' : List zV) (M M'' : zM), q.2.2.2.2 = 24 → I pc st → (∃ op nx r, zfetch j pc = some (op, nx, tg, r)) → (c0 ≤ M (-1) 1 ∧ s0 ≤ M (-1) 2) → ((tg = 373 ∧ Cond.methodLink (zow q.2.2.2.2) i' ⟨"ClogVotesLaw", "hand", "(LClogVotes;II[J)I"⟩ ∈ zwl) ∨ (tg = 374 ∧ Cond.methodLink (zow q.2.2.2.2) i' ⟨"ClogVotesLaw", "question", "(LClogVotes;II[J)I"⟩ ∈ zwl)) → decode q.2.1 pc = .ok (.invokestatic i', 3) → zF8 (zEm ph d) tg [4, 1, -1] st M = some (st', M'') → ((M'' (-1) 1 - c0).toNat ≤ R.cells ∧ (M'' (-1) 2 - s0).toNat ≤ R.slots) → (∀ gy, zGo p l e R s m args below meth c Q K ph c0 s0 ((gs0 ++ gx) ++ gy) (pc + 3) L st' M'') → zGo p l e R s m args below meth c Q K ph c0 s0 (gs0 ++ gx) pc L st M)
    (hI : ∀ (pc op nx tg : Nat) (r : List Int) (L st : List zV) (M : zM) (x : zC), zfetch j pc = some (op, nx, tg, r) → zstep ph (zEm ph d) op nx tg r L st M = some (.inl x) → I pc st → I x.1 x.2.2.1)
    (hend : ∀ (gx : zG) (pc op nx tg : Nat) (r : List Int) (L st : List zV) (M : zM), I pc st → zfetch j pc = some (op, nx, tg, r) → zokP q pc (op, nx, tg, r) = true → zstep ph (zEm ph d) op nx tg r L st M = some (.inr (v, M')) → (c0 ≤ M (-1) 1 ∧ s0 ≤ M (-1) 2) → zGo p l e R s m args below meth c Q K ph c0 s0 (gs0 ++ gx) pc L st M) :
    ∀ (n : Nat) (gx : zG) (pc : Nat) (L st : List zV) (M : zM), zexec ph (zEm ph d) j n pc L st M = some (v, M') → c0 ≤ M (-1) 1 ∧ s0 ≤ M (-1) 2 → I pc st → zGo p l e R s m args below meth c Q K ph c0 s0 (gs0 ++ gx) pc L st M := by
  intro n
  induction n with
  | zero => intro gx pc L st M h; simp [zexec] at h
  | succ n ih =>
    intro gx pc L st M h hcs hi
    simp only [zexec] at h
    split at h
    · cases h
    · rename_i op nx tg r hf
      have hP := (zfetch_ok hT hq hf).2.2
      have hP0 := hP
      unfold zokP at hP
      split at hP
      · rename_i ins len hdg
        dsimp only at hP
        rw [Bool.and_eq_true] at hP
        obtain ⟨hck, hcr⟩ := hP
        split at h
        · cases h
        · rename_i x hs
          have h1 : zmon M x.2.2.2 := zstep_mon (zEm_mon d) hs
          have h2 : zmon x.2.2.2 M' := zexec_mon (zEm_mon d) _ _ _ _ _ _ _ h
          have hcs' : c0 ≤ x.2.2.2 (-1) 1 ∧ s0 ≤ x.2.2.2 (-1) 2 := ⟨Int.le_trans hcs.1 h1.1, Int.le_trans hcs.2 h1.2⟩
          have hlim' : (x.2.2.2 (-1) 1 - c0).toNat ≤ R.cells ∧ (x.2.2.2 (-1) 2 - s0).toNat ≤ R.slots := by
            have := h2.1; have := h2.2; omega
          refine zdisp hC ⟨hd, hR, hcs, hlim'⟩ (fun i' st' M'' z1 z2 z3 z4 z5 z6 => hx gx pc tg i' L st st' M M'' z1 hi ⟨op, nx, r, hf⟩ hcs z2 z3 z4 z5 z6) hdg hck hs (fun gx' => ?_)
          rw [List.append_assoc]
          exact ih (gx ++ gx') _ _ _ _ h hcs' (hI pc op nx tg r L st M x hf hs hi)
        · rename_i o hs
          cases h
          exact hend gx pc op nx tg r L st M hi hf hP0 hs hcs
      · cases hP
/-- where a run throws -/
theorem zstep_thr {ph : Bool} {cl : Nat → List zV → zM → zO} {op nx tg : Nat} {r : List Int} {L st : List zV} {M : zM} {v : zV} {M' : zM} (h : zstep ph cl op nx tg r L st M = some (.inr (v, M'))) (hv : v.1 = 99) : op = 96 ∧ M' = zthr M := by
  unfold zstep at h
  split at h
  · obtain ⟨w, -, h2⟩ := Option.map_eq_some_iff.mp h; cases h2
  split at h
  · obtain ⟨w, -, h2⟩ := Option.map_eq_some_iff.mp h; cases h2
  split at h
  · obtain ⟨w, -, h2⟩ := Option.map_eq_some_iff.mp h; cases h2
  split at h
  · obtain ⟨w, -, h2⟩ := Option.map_eq_some_iff.mp h; cases h2
  split at h
  · obtain ⟨w, -, h2⟩ := Option.map_eq_some_iff.mp h; cases h2
  split at h
  · obtain ⟨w, -, h2⟩ := Option.map_eq_some_iff.mp h; cases h2
  split at h
  · obtain ⟨w, -, h2⟩ := Option.map_eq_some_iff.mp h; cases h2
  split at h
  · obtain ⟨w, hw, h2⟩ := Option.map_eq_some_iff.mp h
    cases h2
    exfalso
    revert hw hv
    unfold zF7
    intro hv hw
    repeat' split at hw
    all_goals first
      | (cases hw; done)
      | (cases hw; simp at hv; done)
      | (cases hw; omega)
  split at h
  · rename_i h96
    cases h
    exact ⟨h96, rfl⟩
  · obtain ⟨w, -, h2⟩ := Option.map_eq_some_iff.mp h; cases h2
