/-! hand(x, p0, p1, o) and question(x, p0, p1, o) of the law: 0 with the answer in o, or 1 -/
theorem zhelp_inv {cl : Nat → List zV → zM → zO} {j : Nat} {as : List zV} {M M' : zM} {v : zV} (h : zhelp cl j as M = some (v, M')) : ∃ (x p0 p1 : zV) (o n : Int), as = [x, p0, p1, (11, o, n)] ∧ ∃ (w : zV) (M1 : zM), cl j [x, p0, p1] M = some (w, M1) ∧ ((w.1 = 0 ∧ 0 < n ∧ v = (0, 0, 0) ∧ M' = zup M1 o 0 w.2.1) ∨ (w.1 = 99 ∧ v = (0, 1, 0) ∧ M' = M1)) := by
  unfold zhelp at h
  split at h
  · rename_i x p0 p1 o n
    refine ⟨x, p0, p1, o, n, rfl, ?_⟩
    split at h
    · rename_i w k M1 hc
      split at h
      · rename_i hn
        cases h
        exact ⟨_, _, hc, Or.inl ⟨rfl, hn, rfl, rfl⟩⟩
      · cases h
    · rename_i w k M1 hc
      cases h
      exact ⟨_, _, hc, Or.inr ⟨rfl, rfl, rfl⟩⟩
    · cases h
  · cases h
theorem zlen5 {x p0 p1 o : zV} (hx : x.1 ≠ 1) (h0 : p0.1 ≠ 1) (h1 : p1.1 ≠ 1) (ho : o.1 ≠ 1) : zinit 5 [x, p0, p1, o] = some [x, p0, p1, o, (3, 0, 0)] := by
  have e : zspr [x, p0, p1, o] = [x, p0, p1, o] := by rw [zspr_n hx, zspr_n h0, zspr_n h1, zspr_n ho]; rfl
  unfold zinit
  rw [e]
  rfl
set_option maxHeartbeats 4000000 in
theorem zh_help {l : Launch} {K : zK} {ph : Bool} {d j : Nat} {q : zME} {x p0 p1 : zV} {o n : Int} {avs : List Value} {gs : zG} {M M' : zM} {v : zV} (hl : l.stackTraces = false) (hj : j = 5 ∨ j = 7) (hd12 : 13 ≤ d) (hT : zokJ j = true) (hd : zOK l K ph d) (hq : zmt j = some q) (hp1 : p1.1 = 0) (h : zhelp (zEm ph (d + 1)) j [x, p0, p1, (11, o, n)] M = some (v, M')) (has : zVRs K gs [x, p0, p1, (11, o, n)] avs) :
    Met l (zhn j) (Cond.codeWith (zhn j) (zhc j) 5 (some .int) [(0, 10, 13, 13)] :: zwg) { frames := d + 2, cells := (M' (-1) 1 - M (-1) 1).toNat, slots := (M' (-1) 2 - M (-1) 2).toNat, locals := 60 * (d + 2) } (zPcX K ph gs M avs) (zQc K ph gs v M') (M' (-1) 1 - M (-1) 1).toNat (M' (-1) 2 - M (-1) 2).toNat (zA K) := by
  obtain ⟨x', p0', p1', o', n', has', w, M1, hw, hcase⟩ := zhelp_inv h
  cases has'
  obtain ⟨hx, hp0, hp1'⟩ := zh_in hj hw
  obtain ⟨ww, wl, wp, wc, wg⟩ := zhn_w hj
  obtain ⟨⟨d0, d1, d2, d3, d4⟩, d5, ⟨d8, d9, d10⟩, ⟨d13, d15, d16⟩, d17, d18⟩ := zhc_d hj
  obtain ⟨wm, wi, wse, wini, hym, hml3⟩ := zhq_w hj hq
  -- the row's cell
  obtain ⟨rx, avs1, rfl, rvx, has1⟩ := zVRs_cons has
  obtain ⟨r0, avs2, rfl, rv0, has2⟩ := zVRs_cons has1
  obtain ⟨r1, avs3, rfl, rv1, has3⟩ := zVRs_cons has2
  obtain ⟨ro, avs4, rfl, rvo, has4⟩ := zVRs_cons has3
  have h4 : avs4 = [] := by
    cases avs4 with
    | nil => rfl
    | cons _ _ => exact absurd has4 (by simp [zVRs])
  subst h4
  obtain ⟨ko, qo, hko, -, -⟩ := zVR_cell rvo (by decide) (by decide) (by decide)
  have hM1 : M' (-1) 1 = M1 (-1) 1 ∧ M' (-1) 2 = M1 (-1) 2 := by
    rcases hcase with ⟨-, -, -, rfl⟩ | ⟨-, -, rfl⟩
    · have hne : (-1 : Int) ≠ o := by omega
      constructor
      · unfold zup; rw [if_neg (fun z => hne z.1)]
      · unfold zup; rw [if_neg (fun z => hne z.1)]
    · exact ⟨rfl, rfl⟩
  have hmon := zEm_mon (d + 1) j _ M w M1 hw
  refine va_MetW wp rfl (fun p e s m args below meth c s₁ B hml2 hP => ?_)
  obtain ⟨⟨rfl, hrep, hSt, hK, hbs, hNw⟩, hth⟩ := hP
  have hws : ∀ w ∈ (Cond.codeWith (zhn j) (zhc j) 5 (some .int) [(0, 10, 13, 13)] :: zwg), w.before _ s = true := atoms_spec B.pre
  have hall : ∀ w ∈ zwl, w.before _ s = true := zNw_use (fun w hw => hws w (List.mem_cons_of_mem _ hw)) hNw
  have hown : s.vm.findClass "ClogVotesLaw" = some m.cls := by rw [← wc]; exact findClass_of_methodNamed B.named
  have hC : zCtx K "ClogVotesLaw" (zhn j).name (zhc j) p s m [rx, r0, r1, ro].toArray meth c := ⟨B.exec, B.bytes, hown, hall, hK, hSt, hbs, B.notSynchronized, (name_of_methodNamed B.named B.method).1⟩
  have htab : c.exceptionTable.toList = tableOf [(0, 10, 13, 13)] := vx_table (x := zhn j) B (hws _ List.mem_cons_self)
  have hL := zlen5 (x := x) (p0 := p0) (p1 := p1) (o := ((11 : Int), o, n)) (by omega) (by omega) hp1' (by show (11 : Int) ≠ 1; decide)
  obtain ⟨e1, e2⟩ := zent has hL
  rw [lg_entry_eq]
  generalize hRR : (headSpec (Cond.codeWith (zhn j) (zhc j) 5 (some .int) [(0, 10, 13, 13)] :: zwg) { frames := d + 2, cells := (M' (-1) 1 - M (-1) 1).toNat, slots := (M' (-1) 2 - M (-1) 2).toNat, locals := 60 * (d + 2) }).room = R
  have hR1 : R.frames = d + 2 := by rw [← hRR]; rfl
  have hR2 : R.locals = 60 * (d + 2) := by rw [← hRR]; rfl
  have hR3 : R.cells = (M' (-1) 1 - M (-1) 1).toNat := by rw [← hRR]; rfl
  have hR4 : R.slots = (M' (-1) 2 - M (-1) 2).toNat := by rw [← hRR]; rfl
  have hgo : zGo p l e R s m [rx, r0, r1, ro].toArray below meth c (MQ below (zQc K ph gs v M') [rx, r0, r1, ro].toArray s (M' (-1) 1 - M (-1) 1).toNat (M' (-1) 2 - M (-1) 2).toNat (zA K)) K ph (M (-1) 1) (M (-1) 2) gs 0 [x, p0, p1, (11, o, n), (3, 0, 0)] [] M := by
    refine zs_aload_n (k := 3) hC d0 (L' := [x, p0, p1, (11, o, n), (3, 0, 0)]) (st' := [(11, o, n)]) rfl ?_
    refine zs_iconst hC d1 rfl ?_
    refine zs_aload_n (k := 0) hC d2 (L' := [x, p0, p1, (11, o, n), (3, 0, 0)]) (st' := [x, (0, 0, 0), (11, o, n)]) (by
      show zF0_al 0 _ _ = _
      unfold zF0_al
      rw [show znth [x, p0, p1, (11, o, n), (3, 0, 0)] 0 = (x.1, x.2.1, x.2.2) from rfl]
      dsimp only
      rw [if_pos (by omega)]) ?_
    refine zs_iload_n (k := 1) hC d3 (L' := [x, p0, p1, (11, o, n), (3, 0, 0)]) (st' := [(0, p0.2.1, 0), x, (0, 0, 0), (11, o, n)]) (by
      show zF0_il 1 _ _ = _
      unfold zF0_il
      rw [show znth [x, p0, p1, (11, o, n), (3, 0, 0)] 1 = (0, p0.2.1, p0.2.2) from by rw [← hp0]; rfl]
      rfl) ?_
    refine zs_iload_n (k := 2) hC d4 (L' := [x, p0, p1, (11, o, n), (3, 0, 0)]) (st' := [(0, p1.2.1, 0), (0, p0.2.1, 0), x, (0, 0, 0), (11, o, n)]) (by
      show zF0_il 2 _ _ = _
      unfold zF0_il
      rw [show znth [x, p0, p1, (11, o, n), (3, 0, 0)] 2 = (0, p1.2.1, p1.2.2) from by rw [← hp1]; rfl]
      rfl) ?_
    intro ls rst H locs b0 b1 b2 b3 b4
    obtain ⟨s1, rst, rfl, bv1, b2⟩ := zVRs_cons b2
    obtain ⟨s0, rst, rfl, bv0, b2⟩ := zVRs_cons b2
    obtain ⟨sx, rst, rfl, bvx, b2c⟩ := zVRs_cons b2
    have bvx' : zVR K gs (29, x.2.1, x.2.2) sx := by rw [← hx]; exact bvx
    obtain ⟨b, rfl, hcell⟩ := zrecv (C := "ClogVotes") hC bvx' (by decide +kernel) b3 b4
    have has3' : zVRs K gs [x, p0, p1] [.ref b, s0, s1] := by
      refine ⟨bvx, ?_, ?_, trivial⟩
      · have : zVR K gs (0, p0.2.1, 0) s0 := bv0
        unfold zVR at this ⊢
        rw [if_pos rfl] at this
        rw [if_pos hp0]
        exact this
      · have : zVR K gs (0, p1.2.1, 0) s1 := bv1
        unfold zVR at this ⊢
        rw [if_pos rfl] at this
        rw [if_pos hp1]
        exact this
    have hM := zh_met hl hj hd12 hT hd hq hw has3'
    have hcodeW : Cond.code q.1 q.2.1 q.2.2.1 q.2.2.2.1 ∈ zwl := zwl_of (zmt_code (by omega) hq) rfl
    have hG : GoodIn zwl (Cond.code q.1 q.2.1 q.2.2.1 q.2.2.2.1 :: zwg) := zwg_good hcodeW rfl
    have hP := zPre hC [.ref b, s0, s1] b3 b4
    have hcb : CallB R s [rx, r0, r1, ro].toArray "ClogVotesLaw" (zhk j) q.1 q.2.1 q.2.2.1 q.2.2.2.1 (Cond.code q.1 q.2.1 q.2.2.1 q.2.2.2.1 :: zwg) { frames := d + 1, cells := (M1 (-1) 1 - M (-1) 1).toNat, slots := (M1 (-1) 2 - M (-1) 2).toNat, locals := 60 * (d + 1) } (M1 (-1) 1 - M (-1) 1).toNat (M1 (-1) 2 - M (-1) 2).toNat 2 := callB_of 2 hC.2.2.2.1 hG rfl rfl rfl (hC.2.2.2.1 _ wini) (hC.2.2.2.1 _ wm) hym ⟨by show d + 1 + 1 ≤ R.frames; omega, by show 8 + (q.2.2.1 + 11) + 60 * (d + 1) ≤ R.locals; omega⟩
    have h8 : 2 * (F0 m 5 ls ([s0, s1].reverse ++ .ref b :: rst)).monitorRoom + (rst.map fun v => v.category).sum ≤ 8 := by
      have := zroom_8 b2c rfl
      show 2 * 0 + _ ≤ 8
      omega
    refine zcall_WX (rest := rst) hC (vx_runV (C := "ClogVotes") (b := b) (rest := rst) (As := [s0, s1]) (g := F0 m 5 ls ([s0, s1].reverse ++ .ref b :: rst)) ⟨hC.1, hC.2.1, rfl, hC.2.2.1, hC.2.2.2.1⟩ hM ⟨hcb, hC.2.2.2.1 _ wi, hC.2.2.2.1 _ wse⟩
      ⟨zPcX_blind _ _ _ _ _, hcell, fun U hU hW => ⟨hP.2 U hU hW, zTh_moved hth hW (fun a h1 h2 => by rw [hU]; exact b4.2.1 a h1 h2)⟩⟩ rfl rfl b0 rfl h8 d5 ⟨?_, ?_⟩) b4 ?_ ?_
    · show (M (-1) 1 - M (-1) 1).toNat + (M1 (-1) 1 - M (-1) 1).toNat ≤ R.cells
      rw [hR3, hM1.1]; omega
    · show (M (-1) 2 - M (-1) 2).toNat + (M1 (-1) 2 - M (-1) 2).toNat ≤ R.slots
      rw [hR4, hM1.2]; omega
    · intro h99 gx ce q9 H1 locs1 hrep1 hS1 hc9 hv9 hcl9
      obtain ⟨rfl, rfl⟩ : v = (0, 1, 0) ∧ M' = M1 := by
        rcases hcase with ⟨h0, -⟩ | ⟨-, h1, h2⟩
        · omega
        · exact ⟨h1, h2⟩
      refine vx_catch (own := "ClogVotesLaw") (name := zxE) (E := zxE) hown [] ⟨0, 10, 13, 13⟩ [] (by rw [htab]; rfl) (fun z hz => nomatch hz) (by rfl) (by decide) (hall _ wl) (va_Nw.use rfl hth.2.2.1) hc9 hv9 hcl9 ?_
      have hk : zGo p l e R s m [rx, r0, r1, ro].toArray below meth c (MQ below (zQc K ph gs (0, 1, 0) M') [rx, r0, r1, ro].toArray s (M' (-1) 1 - M (-1) 1).toNat (M' (-1) 2 - M (-1) 2).toNat (zA K)) K ph (M (-1) 1) (M (-1) 2) (gs ++ gx) 13 [x, p0, p1, (11, o, n), (3, 0, 0)] [(17, 0, 0)] M' := by
        refine zs_astore (k := 4) hC d13 (L' := [x, p0, p1, (11, o, n), (17, 0, 0)]) (st' := []) rfl ?_
        refine zs_iconst hC d15 rfl ?_
        exact zs_ret (op := 80) (r := []) hC (Or.inl ⟨rfl, d16, Or.inl B.returns⟩) rfl
      have hk2 := hk ls [.ref q9] H1 locs1 b0 (zLoc_app b1) ⟨by unfold zVR; rw [if_neg (by decide), if_neg (by decide), if_neg (by decide), if_pos rfl]; exact Or.inr ⟨q9, rfl⟩, trivial⟩ hrep1 hS1
      rw [show (M (-1) 1 - M (-1) 1).toNat + (M' (-1) 1 - M (-1) 1).toNat = (M' (-1) 1 - M (-1) 1).toNat by omega, show (M (-1) 2 - M (-1) 2).toNat + (M' (-1) 2 - M (-1) 2).toNat = (M' (-1) 2 - M (-1) 2).toNat by omega]
      exact hk2
    · intro h99 gx rv H1 locs1 hret hrep1 hS1
      obtain ⟨h0, hn, rfl, rfl⟩ : w.1 = 0 ∧ 0 < n ∧ v = (0, 0, 0) ∧ M' = zup M1 o 0 w.2.1 := by
        rcases hcase with h | ⟨h1, -⟩
        · exact h
        · exact absurd h1 h99
      have hw3 : w = (0, w.2.1, w.2.2) := by rw [← h0]
      have hk : zGo p l e R s m [rx, r0, r1, ro].toArray below meth c (MQ below (zQc K ph gs (0, 0, 0) (zup M1 o 0 w.2.1)) [rx, r0, r1, ro].toArray s (zup M1 o 0 w.2.1 (-1) 1 - M (-1) 1).toNat (zup M1 o 0 w.2.1 (-1) 2 - M (-1) 2).toNat (zA K)) K ph (M (-1) 1) (M (-1) 2) (gs ++ gx) 8 [x, p0, p1, (11, o, n), (3, 0, 0)] [w, (0, 0, 0), (11, o, n)] M1 := by
        refine zs_i2l hC d8 (st' := [(1, w.2.1, 0), (0, 0, 0), (11, o, n)]) (by rw [hw3]; rfl) ?_
        refine zs_store (op := 90) hC (Or.inr (Or.inl ⟨rfl, d9⟩)) (st' := []) (M' := zup M1 o 0 w.2.1) (by
          simp [zF4_s, hn]) ?_
        refine zs_goto hC d10 (tg := 17) rfl ?_
        refine zs_iconst hC d17 rfl ?_
        exact zs_ret (op := 80) (r := []) hC (Or.inl ⟨rfl, d18, Or.inl B.returns⟩) rfl
      unfold zRet at hret
      rw [if_neg (by omega)] at hret
      obtain ⟨rw1, rfl, hret⟩ := hret
      have hk2 := hk ls (rw1 :: rst) H1 locs1 b0 (zLoc_app b1) ⟨hret, zVRs_app b2c⟩ hrep1 hS1
      rw [show (M (-1) 1 - M (-1) 1).toNat + (M1 (-1) 1 - M (-1) 1).toNat = (M1 (-1) 1 - M (-1) 1).toNat by omega, show (M (-1) 2 - M (-1) 2).toNat + (M1 (-1) 2 - M (-1) 2).toNat = (M1 (-1) 2 - M (-1) 2).toNat by omega]
      exact hk2
  have hfin := hgo _ [] s.heap [] (by rw [zent_size e1]; exact hml2.symm) e2 trivial hrep ⟨Nat.le_refl _, fun _ _ _ => rfl, fun _ z => nomatch z⟩
  rw [Int.sub_self, Int.sub_self] at hfin
  exact hfin
