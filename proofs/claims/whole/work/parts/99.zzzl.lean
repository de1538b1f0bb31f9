/-! the law's run, soundly -/
set_option maxRecDepth 20000 in
theorem zhn_s {j : Nat} (hj : j = 5 ∨ j = 7) : Cond.static (zhn j) ∈ zwl ∧ Cond.initialized (zhn j).cls ∈ zwl ∧ ((zhn j).cls ≠ "java/lang/invoke/MethodHandle" ∧ (zhn j).cls ≠ "java/lang/invoke/VarHandle") ∧ (parseMethodDescriptor (zhn j).desc).map (fun d => d.parameters.length) = some 4 := by
  rcases hj with rfl | rfl
  · exact ⟨zwl_of (by decide +kernel) rfl, zwl_of (by decide +kernel) rfl, by decide +kernel, by decide +kernel⟩
  · exact ⟨zwl_of (by decide +kernel) rfl, zwl_of (by decide +kernel) rfl, by decide +kernel, by decide +kernel⟩
theorem zrng5 {j : Nat} (hj : j = 5 ∨ j = 7) : ∃ q, zmt j = some q := by
  have h : (zmt j).isSome = true := by rcases hj with rfl | rfl <;> decide +kernel
  exact Option.isSome_iff_exists.mp h
set_option maxHeartbeats 1000000 in
/-- the law's call of one of its helpers -/
theorem zs_help {p : Program} {l : Launch} {e : Env} {R : Room} {s : State} {m : MethodId} {args : Array Value} {below : List Frame} {meth : Method} {c : Code} {Q : State → Prop} {K : zK} {ph : Bool} {c0 s0 : Int} {gs : zG} {nm : String} {cc : ByteArray} {pc : Nat} {L st : List zV} {M : zM} {d i j : Nat} {st' : List zV} {M' : zM} (hl : l.stackTraces = false) (hC : zCtx K "ClogVotesLaw" nm cc p s m args meth c) (hth : zTh K s) (hj : j = 5 ∨ j = 7) (hd12 : 13 ≤ d) (hR : d + 3 ≤ R.frames ∧ 60 * (d + 3) ≤ R.locals) (hcs : c0 ≤ M (-1) 1 ∧ s0 ≤ M (-1) 2) (hlim : (M' (-1) 1 - c0).toNat ≤ R.cells ∧ (M' (-1) 2 - s0).toNat ≤ R.slots)
    (hi : ∃ o a st', st = o :: ((0 : Int), a, (0 : Int)) :: st') (hlink : Cond.methodLink "ClogVotesLaw" i (zhn j) ∈ zwl) (hdg : decode cc pc = .ok (.invokestatic i, 3)) (hs : zF8 (zEm ph (d + 2)) (if j = 5 then 373 else 374) [4, 1, -1] st M = some (st', M')) (hk : ∀ gx, zGo p l e R s m args below meth c Q K ph c0 s0 (gs ++ gx) (pc + 3) L st' M') : zGo p l e R s m args below meth c Q K ph c0 s0 gs pc L st M := by
  obtain ⟨a3, a2, st3, rfl⟩ := hi
  obtain ⟨q, hq⟩ := zrng5 hj
  have eh : ∀ as : List zV, zEm ph (d + 2) (if j = 5 then 373 else 374) as M = zhelp (zEm ph (d + 1)) j as M := by
    intro as
    rcases hj with rfl | rfl <;> rfl
  unfold zF8 at hs
  dsimp only at hs
  split at hs
  · rename_i as s1 hargs
    obtain ⟨pre, p1, p2, p3⟩ := zargs_spec _ _ _ _ _ hargs
    rw [List.append_nil] at p3
    split at hs
    · rename_i hz
      split at hs
      · rename_i wv M1 hcl
        rw [eh] at hcl
        obtain ⟨x, p0, p1', o, n, rfl, w, M2, hw, hcase⟩ := zhelp_inv hcl
        have hv : wv = (0, 0, 0) ∨ wv = (0, 1, 0) := by
          rcases hcase with ⟨-, -, h, -⟩ | ⟨-, h, -⟩
          · exact Or.inl h
          · exact Or.inr h
        have hwv : wv.1 = 0 := by rcases hv with h | h <;> rw [h]
        rw [if_neg (by decide), if_pos (by omega)] at hs
        cases hs
        -- the second argument
        have hpre : pre = [(11, o, n), p1', p0, x] := by
          have := congrArg List.reverse p3
          rw [List.reverse_reverse] at this
          exact this.symm
        subst hpre
        have hp1 : p1'.1 = 0 := by
          have h9 : a3 :: (0, a2, 0) :: st3 = (11, o, n) :: p1' :: p0 :: x :: s1 := p2
          cases h9
          rfl
        have hmon := zEm_mon (d + 2) (if j = 5 then 373 else 374) _ M wv M' (by rw [eh]; exact hcl)
        have hc1 : (M (-1) 1 - c0).toNat + (M' (-1) 1 - M (-1) 1).toNat = (M' (-1) 1 - c0).toNat := by
          have := hmon.1; have := hcs.1; omega
        have hc2 : (M (-1) 2 - s0).toNat + (M' (-1) 2 - M (-1) 2).toNat = (M' (-1) 2 - s0).toNat := by
          have := hmon.2; have := hcs.2; omega
        intro ls rst H locs b0 b1 b2 b3 b4
        rw [p2] at b2
        obtain ⟨rpre, rrest, rfl, b2a, b2b, hlen⟩ := zVRs_split b2
        have has : zVRs K gs [x, p0, p1', (11, o, n)] rpre.reverse := by
          have := zVRs_reverse b2a
          exact this
        have hM := zh_help hl hj hd12 (zokJ_all (by omega)) (zOK_all l K ph d) hq hp1 hcl has
        obtain ⟨ww, -, -, wc, wg⟩ := zhn_w hj
        obtain ⟨ws1, ws2, hy, hpar⟩ := zhn_s hj
        have hG : GoodIn zwl (Cond.codeWith (zhn j) (zhc j) 5 (some .int) [(0, 10, 13, 13)] :: zwg) := zwg_good ww wg
        have hP := zPre hC rpre.reverse b3 b4
        have hRR : d + 2 + 1 ≤ R.frames ∧ 8 + (5 + 11) + 60 * (d + 2) ≤ R.locals := ⟨hR.1, by have := hR.2; omega⟩
        have hlims : (M (-1) 1 - c0).toNat + (M' (-1) 1 - M (-1) 1).toNat ≤ R.cells ∧ (M (-1) 2 - s0).toNat + (M' (-1) 2 - M (-1) 2).toNat ≤ R.slots := by rw [hc1, hc2]; exact hlim
        have hcw : vx_CSW R s args "ClogVotesLaw" i (zhn j) (zhc j) 5 (some .int) [(0, 10, 13, 13)] (Cond.codeWith (zhn j) (zhc j) 5 (some .int) [(0, 10, 13, 13)] :: zwg) { frames := d + 2, cells := (M' (-1) 1 - M (-1) 1).toNat, slots := (M' (-1) 2 - M (-1) 2).toNat, locals := 60 * (d + 2) } (M' (-1) 1 - M (-1) 1).toNat (M' (-1) 2 - M (-1) 2).toNat 4 :=
          ⟨⟨rfl, rfl, hRR.1, hRR.2, pay_in hC.2.2.2.1 hG, List.mem_cons_self⟩, hC.2.2.2.1 _ ww, hC.2.2.2.1 _ ws2, hy, fun sig h => by
            rw [h] at hpar
            exact (Option.some.inj hpar).symm, hC.2.2.2.1 _ hlink, hC.2.2.2.1 _ ws1⟩
        have h8 : 2 * (F0 m pc ls (rpre ++ rrest)).monitorRoom + (rrest.map fun v => v.category).sum ≤ 8 := by
          have := zroom_8 b2b hz.1
          show 2 * 0 + _ ≤ 8
          omega
        have hr := vx_runSW (meth := meth) (below := below) (e := e) (rest := rrest) (As := rpre.reverse) (g := F0 m pc ls (rpre ++ rrest)) (H := H) (locs := locs) (cells := (M (-1) 1 - c0).toNat) (slots := (M (-1) 2 - s0).toNat) ⟨hC.1, hC.2.1, rfl, hC.2.2.1, hC.2.2.2.1⟩ hM hcw ⟨zPcX_blind _ _ _ _ _, fun U hU hW => ⟨hP.2 U hU hW, zTh_moved hth hW (fun a h1 h2 => by rw [hU]; exact b4.2.1 a h1 h2)⟩⟩ rfl (by rw [List.length_reverse, hlen]; rfl) b0 (by rw [List.reverse_reverse]) h8 hdg hlims
        refine zcall_W hC hr b4 (fun gx rv H1 locs1 hret hrep hS1 => ?_)
        rw [hc1, hc2]
        unfold zRet at hret
        rw [if_neg (by omega)] at hret
        obtain ⟨r, rfl, hr2⟩ := hret
        exact hk gx ls (r :: rrest) H1 locs1 b0 (zLoc_app b1) ⟨hr2, zVRs_app b2b⟩ hrep hS1
      · cases hs
    · cases hs
  · cases hs
set_option maxHeartbeats 1000000 in
theorem zlaw_run {p : Program} {l : Launch} {e : Env} {s : State} {m : MethodId} {below : List Frame} {meth : Method} {c : Code} {b d : Nat} {K : zK} {ph : Bool} {gs0 : zG} {M' : zM} {c0 s0 : Int} (hl : l.stackTraces = false) (hC : zCtx K "ClogVotesLaw" "law" code p s m #[.ref b] meth c) (hth : zTh K s) (hret : meth.sig.returnType = some .boolean) (hd12 : 13 ≤ d) (hd : d ≤ 1000) (hbs : zbs K = s.heap.size) (hlim : (M' (-1) 1 - c0).toNat ≤ 601024 ∧ (M' (-1) 2 - s0).toNat ≤ 7293034) {gx : zG} {pc : Nat} {L st : List zV} {M : zM}
    (h : zEv ph (d + 2) 372 pc L st M = some ((0, 1, 0), M')) (hcs : c0 ≤ M (-1) 1 ∧ s0 ≤ M (-1) 2) (hi : zlI pc st) :
    zGo p l e room_1 s m #[.ref b] below meth c (lw_Z below #[.ref b] s) K ph c0 s0 (gs0 ++ gx) pc L st M := by
  obtain ⟨n, hn⟩ := zlim_ex h
  have hq : zmt 372 = some (⟨"ClogVotesLaw", "law", "([I)Z"⟩, code, 7, some .boolean, 24) := rfl
  have hR : d + 2 + 1 ≤ room_1.frames ∧ 60 * (d + 2 + 1) ≤ room_1.locals := ⟨by show d + 2 + 1 ≤ 2048; omega, by show 60 * (d + 2 + 1) ≤ 84000; omega⟩
  refine zrunG zlI (R := room_1) (Q := lw_Z below #[.ref b] s) (c0 := c0) (s0 := s0) (zokJ_all (j := 372) (by decide)) hq hC (zOK_all l K ph (d + 2)) hR hlim ?_ (fun pc op nx tg r L st M x hf hs hi => zlI_step hf hs hi) ?_ n gx pc L st M hn hcs hi
  · intro gx pc tg i' L st st' M M'' _ hi hf hcs hlk hdg hs hroom hk
    obtain ⟨op, nx, r, hf⟩ := hf
    rcases hlk with ⟨rfl, hlk⟩ | ⟨rfl, hlk⟩
    · exact zs_help (j := 5) hl hC hth (Or.inl rfl) hd12 ⟨hR.1, hR.2⟩ hcs hroom (zlI_at hf (Or.inl rfl) hi) hlk hdg hs hk
    · exact zs_help (j := 7) hl hC hth (Or.inr rfl) hd12 ⟨hR.1, hR.2⟩ hcs hroom (zlI_at hf (Or.inr rfl) hi) hlk hdg hs hk
  · intro gx pc op nx tg r L st M _ hf hP hs hcs
    unfold zokP at hP
    split at hP
    · rename_i ins len hdg
      dsimp only at hP
      rw [Bool.and_eq_true] at hP
      obtain ⟨hck, hcr⟩ := hP
      rcases zstep_inr hs with h99 | ⟨h80, h84, hz, rfl⟩
      · exact absurd (show (0 : Int) = 99 from h99) (by decide)
      · simp only [Bool.or_eq_true, decide_eq_true_eq] at hcr
        have hcr : zokR (some .boolean) op r ins len = true := by
          rcases hcr with (h | h) | h
          · omega
          · omega
          · exact h
        have hop := zokR_ok hdg hcr
        rcases hop with ⟨rfl, hdr, -⟩ | ⟨rfl, -, hh⟩ | ⟨rfl, -, rt, hh, hh2⟩ | ⟨rfl, -, hh⟩
        · intro ls rst H locs b0 b1 b2 b3 b4
          have hst : ∃ y, st = [((0 : Int), (1 : Int), y)] := by
            have hz : zF7 80 r st = some (0, 1, 0) := hz
            unfold zF7 at hz
            rw [if_pos rfl] at hz
            split at hz
            · rename_i x y
              split at hz
              · cases hz
                exact ⟨_, rfl⟩
              · cases hz
            · cases hz
          obtain ⟨y, rfl⟩ := hst
          obtain ⟨rv, rst, rfl, hv, b2a⟩ := zVRs_cons b2
          cases rst with
          | cons _ _ => exact absurd b2a (by simp [zVRs])
          | nil =>
            obtain ⟨i, rfl, hi⟩ := zVR_i hv
            have hi1 : i = 1 := Int32.toInt_inj.mp (by rw [hi]; rfl)
            subst hi1
            intro T hT X
            have X1 := stand_widen (Stand.dropFresh (locs := []) (J := locs) (by rw [List.nil_append]; exact X) (fun x hx => by rw [← hbs]; exact b4.2.2 x hx)) hlim.1 hlim.2
            exact lw_ret hC.1 hC.2.1 (by rw [hret]; rfl) hC.2.2.2.2.2.2.2.1 hdr T hT X1
        · cases hh
        · cases hh; rcases hh2 with ⟨n, h⟩ | ⟨n, h⟩ <;> cases h
        · cases hh
    · cases hP
