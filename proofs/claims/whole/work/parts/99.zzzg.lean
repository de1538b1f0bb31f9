/-! hand and question: their contract, returning or throwing -/
def zPcX (K : zK) (ph : Bool) (gs : zG) (M : zM) (avs : List Value) : Array Value → State → Prop := fun a U => zPc K ph gs M avs a U ∧ zTh K U
theorem zPcX_blind (K : zK) (ph : Bool) (gs : zG) (M : zM) (avs : List Value) : FrameBlind (zPcX K ph gs M avs) := by
  rintro a U g mk ⟨h1, h2⟩
  exact ⟨zPc_blind K ph gs M avs a U g mk h1, zTh_moved (s := U) (U := U.calling g mk a) h2 (State.WarmedH.refl U) (fun _ _ _ => rfl)⟩
def zQcX (K : zK) (ph : Bool) (gs : zG) (v : zV) (M' : zM) : Array Value → State → Outcome → State → Prop := fun a st o t => v.1 ≠ 99 ∧ zQc K ph gs v M' a st o t
def zXC (K : zK) (ph : Bool) (gs : zG) (v : zV) (M' : zM) : String → State → State → Prop := fun E st t => E = zxE ∧ v.1 = 99 ∧ (∃ gx : zG, zRep K ph (gs ++ gx) M' t t.heap) ∧ va_F (zA K) st t
theorem zRep_thr {K : zK} {ph : Bool} {gs : zG} {M : zM} {s : State} {H H1 : Heap} (h : zRep K ph gs M s H) (hq : ∀ q : Nat, q < H.size → H1[q]? = H[q]?) : zRep K ph gs (zthr M) s H1 := by
  obtain ⟨z1, z2, ws, hP, hD, hR⟩ := h
  have e : ∀ (x y : Int), x ≠ -1 → zthr M x y = M x y := fun x y hx => by unfold zthr; rw [if_neg hx]
  refine ⟨?_, fun i hi => by rw [e _ _ (by decide)]; exact z2 i hi, ws, hP.kept (fun k q hk => hq _ ((hP k q hk).lt)), hD, hR.1, hR.2.1, fun k g w hg hw => ?_⟩
  · rw [← z1]; unfold zthr; simp
  · have := zCell_congr (gx := []) (M' := zthr M) (s' := s) (hR.2.2 k g w hg hw) (fun y => e _ _ (by omega)) (fun _ _ z => z)
    rwa [List.append_nil] at this
/-- the places and texts of the throws -/
theorem zhd {j pc : Nat} {q : zME} (hj : j = 5 ∨ j = 7) (hq : zmt j = some q) (h : if j = 5 then pc = 8 ∨ pc = 154 else pc = 8 ∨ pc = 102) :
    ∃ (is : Nat) (i : Nat) (text : String), zstn[i]? = some ("ClogVotes", is, text) ∧ decode q.2.1 pc = .ok (.new 120, 3) ∧ decode q.2.1 (pc + 3) = .ok (.dup, 1) ∧ decode q.2.1 (pc + 4) = .ok (.ldc is, 2) ∧ decode q.2.1 (pc + 6) = .ok (.invokespecial 124, 3) ∧ decode q.2.1 (pc + 9) = .ok (.athrow, 1) := by
  have key : ∀ (jj : Nat) (y : zME) (pc is i : Nat), (zmt jj).map (fun q => (decide (decode q.2.1 pc = .ok (.new 120, 3)) && decide (decode q.2.1 (pc + 3) = .ok (.dup, 1)) && decide (decode q.2.1 (pc + 4) = .ok (.ldc is, 2)) && decide (decode q.2.1 (pc + 6) = .ok (.invokespecial 124, 3)) && decide (decode q.2.1 (pc + 9) = .ok (.athrow, 1)) && decide ((zstn[i]?).map (fun z => (z.1, z.2.1)) = some ("ClogVotes", is)))) = some true → zmt jj = some y → ∃ (is : Nat) (i : Nat) (text : String), zstn[i]? = some ("ClogVotes", is, text) ∧ decode y.2.1 pc = .ok (.new 120, 3) ∧ decode y.2.1 (pc + 3) = .ok (.dup, 1) ∧ decode y.2.1 (pc + 4) = .ok (.ldc is, 2) ∧ decode y.2.1 (pc + 6) = .ok (.invokespecial 124, 3) ∧ decode y.2.1 (pc + 9) = .ok (.athrow, 1) := by
    intro jj y pc is i h1 h2
    rw [h2] at h1
    simp only [Option.map_some, Option.some.injEq, Bool.and_eq_true, decide_eq_true_eq] at h1
    obtain ⟨⟨⟨⟨⟨a1, a2⟩, a3⟩, a4⟩, a5⟩, a6⟩ := h1
    obtain ⟨z, hz, he⟩ := Option.map_eq_some_iff.mp a6
    obtain ⟨z1, z2, z3⟩ := z
    cases he
    exact ⟨_, i, z3, hz, a1, a2, a3, a4, a5⟩
  rcases hj with rfl | rfl
  · rw [if_pos rfl] at h
    rcases h with rfl | rfl
    · exact key 5 q 8 122 0 (by decide +kernel) hq
    · exact key 5 q 154 146 1 (by decide +kernel) hq
  · rw [if_neg (by decide)] at h
    rcases h with rfl | rfl
    · exact key 7 q 8 155 2 (by decide +kernel) hq
    · exact key 7 q 102 172 3 (by decide +kernel) hq
theorem zhq_q {j : Nat} {q : zME} (hj : j = 5 ∨ j = 7) (hq : zmt j = some q) : q.1.cls = "ClogVotes" ∧ zow q.2.2.2.2 = "ClogVotes" ∧ plainName q.1.cls = true ∧ q.2.2.2.2 ≠ 24 := by
  have key : (zmt j).map (fun q => decide (q.1.cls = "ClogVotes") && decide (zow q.2.2.2.2 = "ClogVotes") && plainName q.1.cls && decide (q.2.2.2.2 ≠ 24)) = some true := by rcases hj with rfl | rfl <;> decide +kernel
  rw [hq] at key
  simp only [Option.map_some, Option.some.injEq, Bool.and_eq_true, decide_eq_true_eq] at key
  exact ⟨key.1.1.1, key.1.1.2, key.1.2, key.2⟩
set_option maxHeartbeats 1000000 in
theorem zh_met {l : Launch} {K : zK} {ph : Bool} {d j : Nat} {q : zME} {as : List zV} {avs : List Value} {gs : zG} {M M' : zM} {v : zV} (hl : l.stackTraces = false) (hj : j = 5 ∨ j = 7) (hd12 : 13 ≤ d) (hT : zokJ j = true) (hd : zOK l K ph d) (hq : zmt j = some q) (h : zEm ph (d + 1) j as M = some (v, M')) (has : zVRs K gs as avs) :
    vx_Met l q.1 (Cond.code q.1 q.2.1 q.2.2.1 q.2.2.2.1 :: zwg) { frames := d + 1, cells := (M' (-1) 1 - M (-1) 1).toNat, slots := (M' (-1) 2 - M (-1) 2).toNat, locals := 60 * (d + 1) } (zPcX K ph gs M avs) (zQcX K ph gs v M') (zXC K ph gs v M') (M' (-1) 1 - M (-1) 1).toNat (M' (-1) 2 - M (-1) 2).toNat (zA K) := by
  obtain ⟨hcv, how, hpl, hoc⟩ := zhq_q hj hq
  have hTj2 := hT
  unfold zokJ at hTj2
  rw [hq] at hTj2
  simp only [Bool.and_eq_true, decide_eq_true_eq] at hTj2
  obtain ⟨⟨hcls, hml⟩, -⟩ := hTj2
  refine vx_ofW hpl rfl (fun p e s m args below meth c s₁ B hml2 ht hP => ?_)
  obtain ⟨⟨rfl, hrep, hSt, hK, hbs, hNw⟩, hth⟩ := hP
  have hws : ∀ w ∈ (Cond.code q.1 q.2.1 q.2.2.1 q.2.2.2.1 :: zwg), w.before avs.toArray s = true := atoms_spec B.pre
  have hall : ∀ w ∈ zwl, w.before avs.toArray s = true := zNw_use (fun w hw => hws w (List.mem_cons_of_mem _ hw)) hNw
  have hown : s.vm.findClass (zow q.2.2.2.2) = some m.cls := by rw [← hcls]; exact findClass_of_methodNamed B.named
  have hC : zCtx K (zow q.2.2.2.2) q.1.name q.2.1 p s m avs.toArray meth c := ⟨B.exec, B.bytes, hown, hall, hK, hSt, hbs, B.notSynchronized, (name_of_methodNamed B.named B.method).1⟩
  rw [show zEm ph (d + 1) j as M = (if j = 373 then zhelp (zEm ph d) 5 as M else if j = 374 then zhelp (zEm ph d) 7 as M else match zinit (zml j) as with
    | some L => zlim (fun n => zexec ph (zEm ph d) j n 0 L [] M)
    | none => none) from rfl, if_neg (by omega), if_neg (by omega)] at h
  split at h
  · rename_i L hL
    obtain ⟨n, hn⟩ := zlim_ex h
    rw [hml] at hL
    obtain ⟨e1, e2⟩ := zent has hL
    rw [lg_entry_eq]
    have hgo := zrunG (fun pc st => st.length ≤ 2 * pc) (gs0 := gs) (below := below) (e := e) (c0 := M (-1) 1) (s0 := M (-1) 2) (Q := vx_MQ below (zQcX K ph gs v M') (zXC K ph gs v M') avs.toArray s (M' (-1) 1 - M (-1) 1).toNat (M' (-1) 2 - M (-1) 2).toNat (zA K)) (R := (headSpec (Cond.code q.1 q.2.1 q.2.2.1 q.2.2.2.1 :: zwg) { frames := d + 1, cells := (M' (-1) 1 - M (-1) 1).toNat, slots := (M' (-1) 2 - M (-1) 2).toNat, locals := 60 * (d + 1) }).room) hT hq hC hd ⟨Nat.le_refl _, Nat.le_refl _⟩ ⟨Nat.le_refl _, Nat.le_refl _⟩
      (fun _ _ _ _ _ _ _ _ _ z => absurd z hoc)
      (fun pc op nx tg r L st M x hf hs hi => by
        have h1 := zstep_fwd hs (zhq_ok hj hf).2.1
        show x.2.2.1.length ≤ 2 * x.1
        have hi : st.length ≤ 2 * pc := hi
        omega)
      (fun gx pc op nx tg r L st M2 hi hf hP hs hcs => by
        by_cases hv : v.1 = 99
        · obtain ⟨rfl, rfl⟩ := zstep_thr hs hv
          obtain ⟨hpc, -, h96⟩ := zhq_ok hj hf
          obtain ⟨is, i, text, hstn, d0, d3, d4, d6, d9⟩ := zhd hj hq (h96 rfl)
          intro ls rst H locs b0 b1 b2 b3 b4
          have hsum := zroom_sum b2
          have hi : st.length ≤ 2 * pc := hi
          have hstr : vk_R "ClogVotes" is text (zsa K 8 (i : Int)) s := hSt.2.2.2.2.2.2.2.2.2.1 i _ hstn
          have ec1 : zthr M2 (-1) 1 = M2 (-1) 1 + 1 := by unfold zthr; simp
          have ec2 : zthr M2 (-1) 2 = M2 (-1) 2 + 6 := by unfold zthr; simp
          refine zx_throw (is := is) (text := text) B.exec B.bytes hl (by rw [← how]; exact hown) (hall _ zxC_in.1) (hall _ zxC_in.2) hstr (zTh_words hall hth) hth.1 hth.2.1 b4 b0 d0 d3 d4 d6 d9 (fun x hx => (ht x hx).elim) ⟨?_, ?_⟩ ⟨?_, ?_⟩ B.notSynchronized (fun t hal hsz hkeep => ?_) b4.2.2 ⟨?_, ?_⟩
          · show 5 < d + 1; omega
          · show _ + 83 ≤ 60 * (d + 1); omega
          · show _ + 1 ≤ (zthr M2 (-1) 1 - M (-1) 1).toNat; rw [ec1]; have := hcs.1; omega
          · show _ + 6 ≤ (zthr M2 (-1) 2 - M (-1) 2).toNat; rw [ec2]; have := hcs.2; omega
          · refine ⟨rfl, hv, ⟨gx, zRep_moved (zRep_thr b3 hkeep) hal⟩, Nat.le_trans b4.1 hsz, fun q hq1 hq2 => ?_⟩
            rw [hkeep q (Nat.lt_of_lt_of_le hq1 b4.1)]
            exact b4.2.1 q hq1 hq2
          · rw [ec1]; have := hcs.1; omega
          · rw [ec2]; have := hcs.2; omega
        · unfold zokP at hP
          split at hP
          · rename_i ins len hdg
            dsimp only at hP
            rw [Bool.and_eq_true] at hP
            obtain ⟨hck, hcr⟩ := hP
            rcases zstep_inr hs with h99 | ⟨h80, h84, hz, rfl⟩
            · exact absurd h99 hv
            · simp only [Bool.or_eq_true, decide_eq_true_eq] at hcr
              have hcr : zokR q.2.2.2.1 op r ins len = true := by
                rcases hcr with (h | h) | h
                · omega
                · omega
                · exact h
              have hop := zokR_ok hdg hcr
              rw [← B.returns] at hop
              have hr := zs_ret (l := l) (e := e) (below := below) (gs0 := gs) (gx := gx) (R := (headSpec (Cond.code q.1 q.2.1 q.2.2.1 q.2.2.2.1 :: zwg) { frames := d + 1, cells := (M' (-1) 1 - M (-1) 1).toNat, slots := (M' (-1) 2 - M (-1) 2).toNat, locals := 60 * (d + 1) }).room) (c0 := M (-1) 1) (s0 := M (-1) 2) (ph := ph) (M := M') (L := L) hC hop hz
              intro ls rst H locs b0 b1 b2 b3 b4
              intro T hT X
              obtain ⟨t, a1, o, c1, c2, c3, c4⟩ := hr ls rst H locs b0 b1 b2 b3 b4 T hT X
              exact ⟨t, a1, o, c1, c2, Or.inl ⟨⟨hv, c3⟩, c4⟩⟩
          · cases hP) n [] 0 L [] M hn ⟨Int.le_refl _, Int.le_refl _⟩ (Nat.le_refl 0)
    rw [List.append_nil] at hgo
    have hfin := hgo _ [] s.heap [] (by rw [zent_size e1]; exact hml2.symm) e2 trivial hrep ⟨Nat.le_refl _, fun _ _ _ => rfl, fun _ z => nomatch z⟩
    rw [Int.sub_self, Int.sub_self] at hfin
    exact hfin
  · cases h
