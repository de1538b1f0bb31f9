/-! the law from its entry to its loop, and on to its end -/
theorem cstep_70 {cl : Nat → List zV → cS → Option (zV × cS)} {nx tg : Nat} {n v t : Int} {L st as s : List zV} {q q1 : cS} {w : zV} (ha : zargs n.toNat [] st = some (as, s)) (hz : zroom s = true ∧ (t = -1 ∨ (as.headD (3, 0, 0)).1 = t)) (hcl : cl tg as q = some (w, q1)) (hv : v = 0) (h98 : w.1 = 98) : cstep cl 70 nx tg [n, v, t] L st q = some (.inl (nx, L, s, q1)) := by
  unfold cstep
  rw [if_neg (by decide), if_neg (by decide), if_neg (by decide), if_neg (by decide), if_neg (by decide), if_neg (by decide), if_neg (by decide), if_neg (by decide), if_pos rfl]
  dsimp only
  rw [ha]
  dsimp only
  rw [if_pos hz, hcl]
  dsimp only
  rw [if_pos hv, if_pos h98]
section ZINI
variable {p : Program} {l : Launch} {e : Env} {s : State} {m : MethodId} {below : List Frame} {meth : Method} {c : Code} {Q : State → Prop} {K : zK} {b : Nat} {f : Int → Int}
/-- one step of the law, ahead of its loop -/
theorem zlaw1 (hC : zCtx K "ClogVotesLaw" "law" code p s m #[.ref b] meth c) {pc op nx tg : Nat} {r : List Int} {L st : List zV} {q : cS} {x : Nat × List zV × List zV × cS} (hf : zfetch 372 pc = some (op, nx, tg, r)) (htg : tg ≠ 373 ∧ tg ≠ 374) (hq : cok q) (hc : 0 ≤ q.2.1 ∧ 0 ≤ q.2.2.1) (hlim : x.2.2.2.2.1 ≤ 601024 ∧ x.2.2.2.2.2.1 ≤ 7293034) (h : cstep (cEm 4000 8) op nx tg r L st q = some (.inl x))
    (hk : cok x.2.2.2 → ∀ gs, zGo p l e room_1 s m #[.ref b] below meth c Q K false 0 0 gs x.1 x.2.1 x.2.2.1 (cmem f x.2.2.2)) : ∀ gs, zGo p l e room_1 s m #[.ref b] below meth c Q K false 0 0 gs pc L st (cmem f q) := by
  intro gs
  have hm : zmt 372 = some (⟨"ClogVotesLaw", "law", "([I)Z"⟩, code, 7, some .boolean, 24) := rfl
  have hP := (zfetch_ok (zokJ_all (j := 372) (by decide)) hm hf).2.2
  unfold zokP at hP
  split at hP
  · rename_i ins len hdg
    dsimp only at hP
    rw [Bool.and_eq_true] at hP
    obtain ⟨hck, hcr⟩ := hP
    obtain ⟨k1, k2⟩ := cstep_inl (f := f) (cEm_ok 8) hq h
    refine zdisp (R := room_1) (oc := 24) (d := 8) (nm := "law") (cc := code) (len := len) (ins := ins) hC ⟨zOK_all l K false 8, ⟨by show 8 + 1 ≤ 2048; omega, by show 60 * (8 + 1) ≤ 84000; omega⟩, ⟨hc.1, hc.2⟩, ⟨?_, ?_⟩⟩ (fun i' st' M' _ z2 => ?_) hdg hck k2 (fun gx => hk k1 (gs ++ gx))
    · show (x.2.2.2.2.1 - 0).toNat ≤ 601024
      have := hlim.1
      omega
    · show (x.2.2.2.2.2.1 - 0).toNat ≤ 7293034
      have := hlim.2
      omega
    · rcases z2 with ⟨z, -⟩ | ⟨z, -⟩
      · exact absurd z htg.1
      · exact absurd z htg.2
  · cases hP
/-- the loop, entered with all objects made -/
theorem zlaw_23 (hl : l.stackTraces = false) (hC : zCtx K "ClogVotesLaw" "law" code p s m #[.ref b] meth c) (hth : zTh K s) (hret : meth.sig.returnType = some .boolean) (hbs : zbs K = s.heap.size) {n : Int} (n0 : 0 ≤ n) (n1 : n ≤ 3072) :
    ∀ gs, zGo p l e room_1 s m #[.ref b] below meth c (lw_Z below #[.ref b] s) K false 0 0 gs 23 [(16, -2, n), (29, 0, 0), (30, 197, 0), (11, 219, 1), (0, 0, 0), (3, 0, 0), (3, 0, 0)] [] (cmem f iniQ) := by
  intro gs ls rst H locs b0 b1 b2 b3 b4
  have tg : ∀ (i : Nat) (t x k : Int), ([(16, -2, n), (29, 0, 0), (30, 197, 0), (11, 219, 1), (0, 0, 0), (3, 0, 0), (3, 0, 0)] : List zV)[i]? = some (t, x, k) → 10 ≤ t → t ≠ 16 → t ≠ 17 → tgR gs x.toNat t k := fun i t x k hi h1 h2 h3 => by
    obtain ⟨rv, hv, -⟩ := b1.2.2 i _ hi (by show t ≠ 3; omega)
    obtain ⟨k', q, e1, e2, -⟩ := zVR_cell hv h1 h2 h3
    rw [show x.toNat = k' by omega]
    exact ⟨q, e2⟩
  have b3' := ini_ph b3 (tg 1 29 0 0 rfl (by decide) (by decide) (by decide)) (tg 2 30 197 0 rfl (by decide) (by decide) (by decide)) (tg 3 11 219 1 rfl (by decide) (by decide) (by decide))
  obtain ⟨M', hz, hp⟩ := law_loop (L := n) n1 512 0 (cmem f iniQ) (3, 0, 0) (3, 0, 0) ini_Rel (Int.le_refl _) n0 (by omega)
  unfold zPotN at hp
  have e1 : cmem f iniQ (-1) 1 = 220 := rfl
  have e2 : cmem f iniQ (-1) 2 = 10674 := rfl
  have e3 : cmem f iniQ 54 1000 = 16 := ini_e (by decide +kernel)
  rw [e1, e2, e3, if_pos rfl, if_pos rfl] at hp
  have hlim : (M' (-1) 1 - 0).toNat ≤ 601024 ∧ (M' (-1) 2 - 0).toNat ≤ 7293034 := by
    obtain ⟨p1, p2⟩ := hp
    constructor
    · split at p1 <;> omega
    · split at p2 <;> omega
  have hgo := zlaw_run (d := 118) (gs0 := gs) (gx := []) (e := e) (below := below) (c0 := 0) (s0 := 0) hl hC hth hret (by omega) (by omega) hbs hlim hz ⟨by rw [e1]; omega, by rw [e2]; omega⟩ ⟨fun h => by omega, fun h => by omega⟩
  rw [List.append_nil] at hgo
  exact hgo ls rst H locs b0 b1 b2 b3' b4
theorem zlaw_0 (hl : l.stackTraces = false) (hC : zCtx K "ClogVotesLaw" "law" code p s m #[.ref b] meth c) (hth : zTh K s) (hret : meth.sig.returnType = some .boolean) (hbs : zbs K = s.heap.size) {n : Int} (n0 : 0 ≤ n) (n1 : n ≤ 3072) :
    ∀ gs, zGo p l e room_1 s m #[.ref b] below meth c (lw_Z below #[.ref b] s) K false 0 0 gs 0 [(16, -2, n), (3, 0, 0), (3, 0, 0), (3, 0, 0), (3, 0, 0), (3, 0, 0), (3, 0, 0)] [] (cmem f (0, 0, 0, [])) := by
  refine zlaw1 hC (x := (3, [(16, -2, n), (3, 0, 0), (3, 0, 0), (3, 0, 0), (3, 0, 0), (3, 0, 0), (3, 0, 0)], [(29, 0, 0)], (1, 1, 15, []))) (op := 95) (nx := 3) (tg := 0) (r := [29, 15]) rfl (by decide) ⟨Int.le_refl _, fun w hw => nomatch hw⟩ (by decide) (by dsimp only; omega) rfl (fun q1 => ?_)
  refine zlaw1 hC (x := (4, [(16, -2, n), (3, 0, 0), (3, 0, 0), (3, 0, 0), (3, 0, 0), (3, 0, 0), (3, 0, 0)], [(29, 0, 0), (29, 0, 0)], (1, 1, 15, []))) (op := 36) (nx := 4) (tg := 0) (r := []) rfl (by decide) q1 (by dsimp only; omega) (by dsimp only; omega) rfl (fun q2 => ?_)
  refine zlaw1 hC (x := (7, [(16, -2, n), (3, 0, 0), (3, 0, 0), (3, 0, 0), (3, 0, 0), (3, 0, 0), (3, 0, 0)], [(29, 0, 0)], (197, 197, 5198, inA))) (op := 70) (nx := 7) (tg := 0) (r := [1, 0, 29]) rfl (by decide) q2 (by dsimp only; omega) (by dsimp only; omega) (cstep_70 (as := [(29, 0, 0)]) rfl ⟨rfl, Or.inr rfl⟩ ini_A rfl rfl) (fun q3 => ?_)
  refine zlaw1 hC (x := (8, [(16, -2, n), (29, 0, 0), (3, 0, 0), (3, 0, 0), (3, 0, 0), (3, 0, 0), (3, 0, 0)], [], (197, 197, 5198, inA))) (op := 7) (nx := 8) (tg := 0) (r := [1]) rfl (by decide) q3 (by dsimp only; omega) (by dsimp only; omega) rfl (fun q4 => ?_)
  refine zlaw1 hC (x := (11, [(16, -2, n), (29, 0, 0), (3, 0, 0), (3, 0, 0), (3, 0, 0), (3, 0, 0), (3, 0, 0)], [(30, 197, 0)], (198, 198, 5248, inA))) (op := 95) (nx := 11) (tg := 0) (r := [30, 50]) rfl (by decide) q4 (by dsimp only; omega) (by dsimp only; omega) rfl (fun q5 => ?_)
  refine zlaw1 hC (x := (12, [(16, -2, n), (29, 0, 0), (3, 0, 0), (3, 0, 0), (3, 0, 0), (3, 0, 0), (3, 0, 0)], [(30, 197, 0), (30, 197, 0)], (198, 198, 5248, inA))) (op := 36) (nx := 12) (tg := 0) (r := []) rfl (by decide) q5 (by dsimp only; omega) (by dsimp only; omega) rfl (fun q6 => ?_)
  refine zlaw1 hC (x := (15, [(16, -2, n), (29, 0, 0), (3, 0, 0), (3, 0, 0), (3, 0, 0), (3, 0, 0), (3, 0, 0)], [(30, 197, 0)], (219, 219, 10673, inM))) (op := 70) (nx := 15) (tg := 186) (r := [1, 0, 30]) rfl (by decide) q6 (by dsimp only; omega) (by dsimp only; omega) (cstep_70 (as := [(30, 197, 0)]) rfl ⟨rfl, Or.inr rfl⟩ ini_M rfl rfl) (fun q7 => ?_)
  refine zlaw1 hC (x := (16, [(16, -2, n), (29, 0, 0), (30, 197, 0), (3, 0, 0), (3, 0, 0), (3, 0, 0), (3, 0, 0)], [], (219, 219, 10673, inM))) (op := 7) (nx := 16) (tg := 0) (r := [2]) rfl (by decide) q7 (by dsimp only; omega) (by dsimp only; omega) rfl (fun q8 => ?_)
  refine zlaw1 hC (x := (17, [(16, -2, n), (29, 0, 0), (30, 197, 0), (3, 0, 0), (3, 0, 0), (3, 0, 0), (3, 0, 0)], [(0, 1, 0)], (219, 219, 10673, inM))) (op := 0) (nx := 17) (tg := 0) (r := [1]) rfl (by decide) q8 (by dsimp only; omega) (by dsimp only; omega) rfl (fun q9 => ?_)
  refine zlaw1 hC (x := (19, [(16, -2, n), (29, 0, 0), (30, 197, 0), (3, 0, 0), (3, 0, 0), (3, 0, 0), (3, 0, 0)], [(11, 219, 1)], iniQ)) (op := 93) (nx := 19) (tg := 0) (r := [11]) rfl (by decide) q9 (by dsimp only; omega) (by unfold iniQ; dsimp only; omega) rfl (fun q10 => ?_)
  refine zlaw1 hC (x := (20, [(16, -2, n), (29, 0, 0), (30, 197, 0), (11, 219, 1), (3, 0, 0), (3, 0, 0), (3, 0, 0)], [], iniQ)) (op := 7) (nx := 20) (tg := 0) (r := [3]) rfl (by decide) q10 (by unfold iniQ; dsimp only; omega) (by unfold iniQ; dsimp only; omega) rfl (fun q11 => ?_)
  refine zlaw1 hC (x := (21, [(16, -2, n), (29, 0, 0), (30, 197, 0), (11, 219, 1), (3, 0, 0), (3, 0, 0), (3, 0, 0)], [(0, 0, 0)], iniQ)) (op := 0) (nx := 21) (tg := 0) (r := [0]) rfl (by decide) q11 (by unfold iniQ; dsimp only; omega) (by unfold iniQ; dsimp only; omega) rfl (fun q12 => ?_)
  refine zlaw1 hC (x := (23, [(16, -2, n), (29, 0, 0), (30, 197, 0), (11, 219, 1), (0, 0, 0), (3, 0, 0), (3, 0, 0)], [], iniQ)) (op := 5) (nx := 23) (tg := 0) (r := [4]) rfl (by decide) q12 (by unfold iniQ; dsimp only; omega) (by unfold iniQ; dsimp only; omega) rfl (fun _ => ?_)
  exact zlaw_23 hl hC hth hret hbs n0 n1
end ZINI
