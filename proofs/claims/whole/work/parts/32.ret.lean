/-! returns; the counts never fall -/
def zmon (M M' : zM) : Prop := M (-1) 1 ≤ M' (-1) 1 ∧ M (-1) 2 ≤ M' (-1) 2
theorem zmon_refl (M : zM) : zmon M M := ⟨Int.le_refl _, Int.le_refl _⟩
theorem zmon_trans {M M1 M2 : zM} (h : zmon M M1) (h' : zmon M1 M2) : zmon M M2 := ⟨Int.le_trans h.1 h'.1, Int.le_trans h.2 h'.2⟩
theorem zup_m1 (M : zM) (a j v y : Int) : zup M a j v (-1) y = M (-1) y := by simp [zup]
theorem zmon_up (M : zM) (a j v : Int) : zmon M (zup M a j v) := by simp [zmon, zup_m1]
theorem zmon_up2 (M : zM) (a j v b k w : Int) : zmon M (zup (zup M a j v) b k w) := by simp [zmon, zup_m1]
theorem zmon_new (M : zM) {n : Int} (h : 0 ≤ n) : zmon M (znew M n) := by
  constructor <;> simp [znew] <;> omega
theorem zmon_thr (M : zM) : zmon M (zthr M) := by
  constructor <;> simp [zthr] <;> omega
theorem zmon_cpy (M : zM) (a sp b dp n : Int) : zmon M (zcpy M a sp b dp n) := by simp [zmon, zcpy]
theorem zmon_cpyS (M : zM) (a sp b dp n : Int) : zmon M (zcpyS M a sp b dp n) := by simp [zmon, zcpyS]
theorem zF3_mon {ph : Bool} {op : Nat} {r : List Int} {st : List zV} {M : zM} {q : List zV × zM} (h : zF3 ph op r st M = some q) : zmon M q.2 := by
  unfold zF3 at h
  split at h
  · unfold zF3_g at h
    repeat' split at h
    all_goals (first | (cases h; exact zmon_refl _) | cases h)
  split at h
  · unfold zF3_p at h
    repeat' split at h
    all_goals (first | (cases h; first | exact zmon_up _ _ _ _ | exact zmon_up2 _ _ _ _ _ _ _) | cases h)
  · obtain ⟨w, -, rfl⟩ := Option.map_eq_some_iff.mp h
    exact zmon_refl _
theorem zF4_mon {ph : Bool} {op : Nat} {r : List Int} {st : List zV} {M : zM} {q : List zV × zM} (h : zF4 ph op r st M = some q) : zmon M q.2 := by
  unfold zF4 at h
  split at h
  · obtain ⟨w, -, rfl⟩ := Option.map_eq_some_iff.mp h
    exact zmon_refl _
  split at h
  · obtain ⟨w, -, rfl⟩ := Option.map_eq_some_iff.mp h
    exact zmon_refl _
  split at h
  · unfold zF4_s at h
    repeat' split at h
    all_goals (first | (cases h; exact zmon_up _ _ _ _) | cases h)
  split at h
  · unfold zF4_a at h
    split at h
    · split at h
      · rename_i hn
        cases h
        exact zmon_new _ hn.1
      · cases h
    · cases h
  · split at h
    · rename_i hn
      cases h
      exact zmon_new _ hn.2
    · cases h
theorem zF6_mon {op : Nat} {st : List zV} {M : zM} {q : List zV × zM} (h : zF6 op st M = some q) : zmon M q.2 := by
  unfold zF6 at h
  split at h
  · obtain ⟨w, -, rfl⟩ := Option.map_eq_some_iff.mp h
    exact zmon_refl _
  split at h
  · obtain ⟨w, -, rfl⟩ := Option.map_eq_some_iff.mp h
    exact zmon_refl _
  split at h
  · unfold zF6_c at h
    repeat' split at h
    all_goals (first | (cases h; first | exact zmon_cpy _ _ _ _ _ _ | exact zmon_cpyS _ _ _ _ _ _) | cases h)
  · obtain ⟨w, -, rfl⟩ := Option.map_eq_some_iff.mp h
    exact zmon_refl _
theorem zF8_mon {cl : Nat → List zV → zM → zO} (hcl : ∀ j as M v M', cl j as M = some (v, M') → zmon M M') {tg : Nat} {r : List Int} {st : List zV} {M : zM} {q : List zV × zM} (h : zF8 cl tg r st M = some q) : zmon M q.2 := by
  unfold zF8 at h
  split at h
  · split at h
    · split at h
      · split at h
        · rename_i w M1 hc
          have := hcl _ _ _ _ _ hc
          split at h
          · split at h
            · cases h; exact this
            · cases h
          · split at h
            · cases h; exact this
            · cases h
        · cases h
      · cases h
    · cases h
  · cases h
def zSm (M : zM) : zC ⊕ (zV × zM) → Prop
  | .inl c => zmon M c.2.2.2
  | .inr o => zmon M o.2
theorem zstep_mon {ph : Bool} {cl : Nat → List zV → zM → zO} (hcl : ∀ j as M v M', cl j as M = some (v, M') → zmon M M') {op nx tg : Nat} {r : List Int} {L st : List zV} {M : zM} {x : zC ⊕ (zV × zM)} (h : zstep ph cl op nx tg r L st M = some x) : zSm M x := by
  unfold zstep at h
  split at h
  · obtain ⟨w, -, rfl⟩ := Option.map_eq_some_iff.mp h
    exact zmon_refl _
  split at h
  · obtain ⟨w, -, rfl⟩ := Option.map_eq_some_iff.mp h
    exact zmon_refl _
  split at h
  · obtain ⟨w, -, rfl⟩ := Option.map_eq_some_iff.mp h
    exact zmon_refl _
  split at h
  · obtain ⟨w, hw, rfl⟩ := Option.map_eq_some_iff.mp h
    exact zF3_mon hw
  split at h
  · obtain ⟨w, hw, rfl⟩ := Option.map_eq_some_iff.mp h
    exact zF8_mon hcl hw
  split at h
  · obtain ⟨w, hw, rfl⟩ := Option.map_eq_some_iff.mp h
    exact zF6_mon hw
  split at h
  · obtain ⟨w, -, rfl⟩ := Option.map_eq_some_iff.mp h
    exact zmon_refl _
  split at h
  · obtain ⟨w, -, rfl⟩ := Option.map_eq_some_iff.mp h
    exact zmon_refl _
  split at h
  · cases h
    exact zmon_thr _
  · obtain ⟨w, hw, rfl⟩ := Option.map_eq_some_iff.mp h
    exact zF4_mon hw
theorem zexec_mon {ph : Bool} {cl : Nat → List zV → zM → zO} (hcl : ∀ j as M v M', cl j as M = some (v, M') → zmon M M') {j : Nat} : ∀ (n pc : Nat) (L st : List zV) (M M' : zM) (v : zV), zexec ph cl j n pc L st M = some (v, M') → zmon M M' := by
  intro n
  induction n with
  | zero => intro pc L st M M' v h; simp [zexec] at h
  | succ n ih =>
    intro pc L st M M' v h
    simp only [zexec] at h
    split at h
    · cases h
    · rename_i op nx tg r hf
      split at h
      · cases h
      · rename_i c hs
        exact zmon_trans (zstep_mon hcl hs) (ih _ _ _ _ _ _ h)
      · rename_i o hs
        cases h
        exact zstep_mon hcl hs
theorem zEm_mon {ph : Bool} : ∀ (d j : Nat) (as : List zV) (M : zM) (v : zV) (M' : zM), zEm ph d j as M = some (v, M') → zmon M M' := by
  intro d
  induction d with
  | zero => intro j as M v M' h; cases h
  | succ d ih =>
    have hh : ∀ (c : Nat) (as : List zV) (M : zM) (v : zV) (M' : zM), zhelp (zEm ph d) c as M = some (v, M') → zmon M M' := by
      intro c as M v M' h
      unfold zhelp at h
      split at h
      · split at h
        · rename_i hc
          split at h
          · cases h
            exact zmon_trans (ih _ _ _ _ _ hc) (zmon_up _ _ _ _)
          · cases h
        · rename_i hc
          cases h
          exact ih _ _ _ _ _ hc
        · cases h
      · cases h
    intro j as M v M' h
    rw [show zEm ph (d + 1) j as M = (if j = 373 then zhelp (zEm ph d) 5 as M else if j = 374 then zhelp (zEm ph d) 7 as M else match zinit (zml j) as with
      | some L => zlim (fun n => zexec ph (zEm ph d) j n 0 L [] M)
      | none => none) from rfl] at h
    split at h
    · exact hh _ _ _ _ _ h
    split at h
    · exact hh _ _ _ _ _ h
    split at h
    · obtain ⟨n, hn⟩ := zlim_ex h
      exact zexec_mon (fun j as M v M' z => ih j as M v M' z) n _ _ _ _ _ _ hn
    · cases h
theorem znar_c {i : Int32} (h1 : 0 ≤ i.toInt) (h2 : i.toInt ≤ 65535) : narrow .char (.int i) = .int i := by
  show Value.int ((i.toUInt32 % 65536).toInt32) = .int i
  congr 1
  apply Int32.toBitVec_inj.mp
  apply BitVec.eq_of_toNat_eq
  have h3 : i.toInt = (i.toBitVec.toNat : Int) := by
    rw [← Int32.toInt_toBitVec, BitVec.toInt_eq_toNat_cond]
    have h4 : 0 ≤ i.toBitVec.toInt := by rw [Int32.toInt_toBitVec]; exact h1
    rw [BitVec.toInt_eq_toNat_cond] at h4
    have := i.toBitVec.isLt
    split
    · rfl
    · rename_i h5
      rw [if_neg h5] at h4
      omega
  have h6 : i.toUInt32.toNat = i.toBitVec.toNat := rfl
  show (i.toUInt32 % 65536).toNat = i.toBitVec.toNat
  rw [UInt32.toNat_mod, h6]
  exact Nat.mod_eq_of_lt (by show _ < 65536; omega)
theorem zF7_80 (r : List Int) (st : List zV) : zF7 80 r st = (match st with
      | [(0, x, _)] => if zin r x = true then some (0, x, 0) else none
      | _ => none) := rfl
theorem zF7_81 (r : List Int) (st : List zV) : zF7 81 r st = (match st with
      | [(1, x, _)] => some (1, x, 0)
      | _ => none) := rfl
theorem zF7_82 (r : List Int) (st : List zV) : zF7 82 r st = (match st with
      | [(t, x, n)] => if 4 ≤ t ∧ t < 98 then some (t, x, n) else none
      | _ => none) := rfl
theorem zF7_83 (r : List Int) (st : List zV) : zF7 83 r st = (match st with
      | [] => some (98, 0, 0)
      | _ => none) := rfl
/-- a method's end -/
theorem zs_ret {p : Program} {l : Launch} {e : Env} {R : Room} {s : State} {m : MethodId} {args : Array Value} {below : List Frame} {meth : Method} {c : Code} {K : zK} {ph : Bool} {c0 s0 : Int} {gs0 gx : zG} {own nm : String} {cc : ByteArray} {pc op : Nat} {r : List Int} {L st : List zV} {M : zM} {v : zV} (hC : zCtx K own nm cc p s m args meth c)
    (hop : (op = 80 ∧ decode cc pc = .ok (.ireturn, 1) ∧ (meth.sig.returnType = some .int ∨ (meth.sig.returnType = some .boolean ∧ r = [0, 1]) ∨ (meth.sig.returnType = some .char ∧ r = [0, 65535]) ∨ (meth.sig.returnType = some .byte ∧ r = [-128, 127]))) ∨ (op = 81 ∧ decode cc pc = .ok (.lreturn, 1) ∧ meth.sig.returnType = some .long) ∨ (op = 82 ∧ decode cc pc = .ok (.areturn, 1) ∧ ∃ rt, meth.sig.returnType = some rt ∧ ((∃ n, rt = .object n) ∨ ∃ t, rt = .array t)) ∨ (op = 83 ∧ decode cc pc = .ok (.return_, 1) ∧ meth.sig.returnType = none))
    (hs : zF7 op r st = some v) : zGo p l e R s m args below meth c (MQ below (zQc K ph gs0 v M) args s (M (-1) 1 - c0).toNat (M (-1) 2 - s0).toNat (zA K)) K ph c0 s0 (gs0 ++ gx) pc L st M := by
  intro ls rst H locs b0 b1 b2 b3 b4
  have hl := hC.2.2.2.2.2.2.2.1
  have hend : ∀ (rv : Option Value), zRet K (gs0 ++ gx) v rv → ∀ t : State, t.heap = H → s.WarmedH t.vm → zQc K ph gs0 v M args s (.returned rv) t := by
    intro rv hrv t ht hW
    refine ⟨gx, rv, rfl, hrv, ?_, b4.F ht⟩
    rw [ht]
    exact zRep_moved b3 hW.alike
  have hfree : ∀ q ∈ locs, zA K q.base := b4.2.2
  rcases hop with ⟨rfl, hdg, hty⟩ | ⟨rfl, hdg, hty⟩ | ⟨rfl, hdg, rt, hty, hrt⟩ | ⟨rfl, hdg, hty⟩
  · rw [zF7_80] at hs
    split at hs
    · rename_i x y
      split at hs
      · rename_i hz
        cases hs
        obtain ⟨rv, rst, rfl, hv, b2a⟩ := zVRs_cons b2
        cases rst with
        | cons _ _ => exact absurd b2a (by simp [zVRs])
        | nil =>
          obtain ⟨i, rfl, hi⟩ := zVR_i hv
          have hq := hend (some (.int i)) ⟨_, rfl, zVR_mki i hi⟩
          rcases hty with hty | ⟨hty, rfl⟩ | ⟨hty, rfl⟩ | ⟨hty, rfl⟩
          · exact W.iret hC.1 hC.2.1 hty hq hfree hdg hl
          · refine W.zret hC.1 hC.2.1 hty ?_ hq hfree hdg hl
            subst hi
            simp only [zin, Bool.and_eq_true, decide_eq_true_eq] at hz
            exact (znar_z (by omega)).1
          · refine W.zret hC.1 hC.2.1 hty ?_ hq hfree hdg hl
            subst hi
            simp only [zin, Bool.and_eq_true, decide_eq_true_eq] at hz
            exact znar_c hz.1 hz.2
          · refine W.zret hC.1 hC.2.1 hty ?_ hq hfree hdg hl
            subst hi
            simp only [zin, Bool.and_eq_true, decide_eq_true_eq] at hz
            exact (znar_b (by omega) (by omega)).1
      · cases hs
    · cases hs
  · rw [zF7_81] at hs
    split at hs
    · rename_i x y
      cases hs
      obtain ⟨rv, rst, rfl, hv, b2a⟩ := zVRs_cons b2
      cases rst with
      | cons _ _ => exact absurd b2a (by simp [zVRs])
      | nil =>
        obtain ⟨i, rfl, hi⟩ := zVR_l hv
        exact W.lret hC.1 hC.2.1 hty (hend (some (.long i)) ⟨_, rfl, zVR_mkl i hi⟩) hfree hdg hl
    · cases hs
  · rw [zF7_82] at hs
    split at hs
    · rename_i t x n
      split at hs
      · rename_i hz
        cases hs
        obtain ⟨rv, rst, rfl, hv, b2a⟩ := zVRs_cons b2
        cases rst with
        | cons _ _ => exact absurd b2a (by simp [zVRs])
        | nil =>
          have hq := hend (some rv) (by unfold zRet; rw [if_neg (by dsimp only; omega)]; exact ⟨rv, rfl, hv⟩)
          refine W.aret hC.1 hC.2.1 hty hrt ?_ hq hfree hdg hl
          obtain ⟨o, rfl⟩ := zVR_ref hv hz.1
          cases o with
          | none => exact Or.inl rfl
          | some q => exact Or.inr ⟨q, rfl⟩
      · cases hs
    · cases hs
  · rw [zF7_83] at hs
    split at hs
    · cases hs
      cases rst with
      | cons _ _ => exact absurd b2 (by simp [zVRs])
      | nil => exact W.vret hC.1 hC.2.1 hty (hend none rfl) hfree hdg hl
    · cases hs
