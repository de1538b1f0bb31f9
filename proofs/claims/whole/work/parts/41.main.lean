/-! a run of the small machine is a run of the real one -/
theorem zfetch_ok {j pc : Nat} {e : zE} {q : zME} (hT : zokJ j = true) (hq : zmt j = some q) (hf : zfetch j pc = some e) : q.1.cls = zow q.2.2.2.2 ∧ zml j = q.2.2.1 ∧ zokP q pc e = true := by
  unfold zokJ at hT
  rw [hq] at hT
  simp only [Bool.and_eq_true, decide_eq_true_eq] at hT
  refine ⟨hT.1.1, hT.1.2, ?_⟩
  have := zokL_get _ 0 pc e hT.2 hf
  rwa [Nat.zero_add] at this
theorem zstep_inr {ph : Bool} {cl : Nat → List zV → zM → zO} {op nx tg : Nat} {r : List Int} {L st : List zV} {M : zM} {o : zV × zM} (h : zstep ph cl op nx tg r L st M = some (.inr o)) : o.1.1 = 99 ∨ (80 ≤ op ∧ op < 84 ∧ zF7 op r st = some o.1 ∧ o.2 = M) := by
  unfold zstep at h
  split at h
  · obtain ⟨w, -, h2⟩ := Option.map_eq_some_iff.mp h; cases h2
  split at h
  · obtain ⟨w, -, h2⟩ := Option.map_eq_some_iff.mp h; cases h2
  split at h
  · obtain ⟨w, -, h2⟩ := Option.map_eq_some_iff.mp h; cases h2
  split at h
  · obtain ⟨w, -, h2⟩ := Option.map_eq_some_iff.mp h; cases h2
  split at h
  · obtain ⟨w, -, h2⟩ := Option.map_eq_some_iff.mp h; cases h2
  split at h
  · obtain ⟨w, -, h2⟩ := Option.map_eq_some_iff.mp h; cases h2
  split at h
  · obtain ⟨w, -, h2⟩ := Option.map_eq_some_iff.mp h; cases h2
  split at h
  · obtain ⟨w, hw, h2⟩ := Option.map_eq_some_iff.mp h
    cases h2
    exact Or.inr ⟨by omega, by omega, hw, rfl⟩
  split at h
  · cases h
    exact Or.inl rfl
  · obtain ⟨w, -, h2⟩ := Option.map_eq_some_iff.mp h; cases h2
theorem zokR_ok {cc : ByteArray} {pc op len : Nat} {r : List Int} {ret : Option FieldType} {ins : Instr} (hdg : decode cc pc = .ok (ins, len)) (h : zokR ret op r ins len = true) : (op = 80 ∧ decode cc pc = .ok (.ireturn, 1) ∧ (ret = some .int ∨ (ret = some .boolean ∧ r = [0, 1]) ∨ (ret = some .char ∧ r = [0, 65535]) ∨ (ret = some .byte ∧ r = [-128, 127]))) ∨ (op = 81 ∧ decode cc pc = .ok (.lreturn, 1) ∧ ret = some .long) ∨ (op = 82 ∧ decode cc pc = .ok (.areturn, 1) ∧ ∃ rt, ret = some rt ∧ ((∃ n, rt = .object n) ∨ ∃ t, rt = .array t)) ∨ (op = 83 ∧ decode cc pc = .ok (.return_, 1) ∧ ret = none) := by
  unfold zokR at h
  split at h
  · simp only [Bool.and_eq_true, Bool.or_eq_true, beq_iff_eq, decide_eq_true_eq] at h
    obtain ⟨⟨rfl, rfl⟩, h⟩ := h
    refine Or.inl ⟨rfl, hdg, ?_⟩
    rcases h with ((h | h) | h) | h
    · exact Or.inl h
    · exact Or.inr (Or.inl h)
    · exact Or.inr (Or.inr (Or.inl h))
    · exact Or.inr (Or.inr (Or.inr h))
  · simp only [Bool.and_eq_true, beq_iff_eq, decide_eq_true_eq] at h
    obtain ⟨⟨rfl, rfl⟩, h⟩ := h
    exact Or.inr (Or.inl ⟨rfl, hdg, h⟩)
  · simp only [Bool.and_eq_true, beq_iff_eq] at h
    obtain ⟨⟨rfl, rfl⟩, h⟩ := h
    refine Or.inr (Or.inr (Or.inl ⟨rfl, hdg, ?_⟩))
    unfold zkr at h
    split at h
    · exact ⟨_, rfl, Or.inl ⟨_, rfl⟩⟩
    · exact ⟨_, rfl, Or.inr ⟨_, rfl⟩⟩
    · cases h
  · simp only [Bool.and_eq_true, beq_iff_eq, decide_eq_true_eq] at h
    obtain ⟨⟨rfl, rfl⟩, h⟩ := h
    exact Or.inr (Or.inr (Or.inr ⟨rfl, hdg, h⟩))
  · cases h
theorem zrun {p : Program} {l : Launch} {e : Env} {R : Room} {s : State} {m : MethodId} {args : Array Value} {below : List Frame} {meth : Method} {c : Code} {K : zK} {ph : Bool} {c0 s0 : Int} {gs0 : zG} {d j : Nat} {q : zME} {v : zV} {M' : zM}
    (hT : zokJ j = true) (hq : zmt j = some q) (hC : zCtx K (zow q.2.2.2.2) q.1.name q.2.1 p s m args meth c) (hret : meth.sig.returnType = q.2.2.2.1) (hd : zOK l K ph d) (hR : d + 1 ≤ R.frames ∧ 60 * (d + 1) ≤ R.locals) (hoc : q.2.2.2.2 ≠ 24) (hv : v.1 ≠ 99) (hlim : (M' (-1) 1 - c0).toNat ≤ R.cells ∧ (M' (-1) 2 - s0).toNat ≤ R.slots) :
    ∀ (n : Nat) (gx : zG) (pc : Nat) (L st : List zV) (M : zM), zexec ph (zEm ph d) j n pc L st M = some (v, M') → c0 ≤ M (-1) 1 ∧ s0 ≤ M (-1) 2 →
      zGo p l e R s m args below meth c (MQ below (zQc K ph gs0 v M') args s (M' (-1) 1 - c0).toNat (M' (-1) 2 - s0).toNat (zA K)) K ph c0 s0 (gs0 ++ gx) pc L st M := by
  intro n
  induction n with
  | zero => intro gx pc L st M h; simp [zexec] at h
  | succ n ih =>
    intro gx pc L st M h hcs
    simp only [zexec] at h
    split at h
    · cases h
    · rename_i op nx tg r hf
      have hP := (zfetch_ok hT hq hf).2.2
      unfold zokP at hP
      split at hP
      · rename_i ins len hdg
        dsimp only at hP
        rw [Bool.and_eq_true] at hP
        obtain ⟨hck, hcr⟩ := hP
        split at h
        · cases h
        · rename_i x hs
          have h1 : zmon M x.2.2.2 := zstep_mon (zEm_mon d) hs
          have h2 : zmon x.2.2.2 M' := zexec_mon (zEm_mon d) _ _ _ _ _ _ _ h
          have hcs' : c0 ≤ x.2.2.2 (-1) 1 ∧ s0 ≤ x.2.2.2 (-1) 2 := ⟨Int.le_trans hcs.1 h1.1, Int.le_trans hcs.2 h1.2⟩
          have hlim' : (x.2.2.2 (-1) 1 - c0).toNat ≤ R.cells ∧ (x.2.2.2 (-1) 2 - s0).toNat ≤ R.slots := by
            have := h2.1; have := h2.2; omega
          refine zdisp hC ⟨hd, hR, hcs, hlim'⟩ (fun _ _ _ z => absurd z hoc) hdg hck hs (fun gx' => ?_)
          rw [List.append_assoc]
          exact ih (gx ++ gx') _ _ _ _ h hcs'
        · rename_i o hs
          cases h
          rcases zstep_inr hs with h99 | ⟨h80, h84, hz, rfl⟩
          · exact absurd h99 hv
          · simp only [Bool.or_eq_true, decide_eq_true_eq] at hcr
            have hcr : zokR q.2.2.2.1 op r ins len = true := by
              rcases hcr with (h | h) | h
              · omega
              · omega
              · exact h
            have hop := zokR_ok hdg hcr
            rw [← hret] at hop
            exact zs_ret hC hop hz
      · cases hP
theorem zmt_oc {j : Nat} {q : zME} (hj : j ≠ 372) (h : zmt j = some q) : q.2.2.2.2 = (zkc j).2 := by
  unfold zmt at h
  rw [if_neg hj] at h
  unfold zcdo at h
  split at h
  · cases h; rfl
  · cases h
set_option maxRecDepth 20000 in
theorem zkc_oc {j : Nat} (hj : j < 372) : (zkc j).2 ≠ 24 := by
  have h : ((List.range 372).all fun j => decide ((zkc j).2 ≠ 24)) = true := by decide +kernel
  exact of_decide_eq_true (List.all_eq_true.mp h j (List.mem_range.mpr hj))
theorem zOK_0 (l : Launch) (K : zK) (ph : Bool) : zOK l K ph 0 := by
  intro j q as avs gs M M' v _ _ _ h
  cases h
/-- one level of calls more -/
theorem zOK_succ {l : Launch} {K : zK} {ph : Bool} {d : Nat} (hT : ∀ j, j < 375 → zokJ j = true) (hd : zOK l K ph d) : zOK l K ph (d + 1) := by
  intro j q as avs gs M M' v hjl hq hcw h hv has
  obtain ⟨w, hw⟩ := Option.ne_none_iff_exists'.mp hcw
  have hj : j < 372 := by
    apply Nat.lt_of_not_le
    intro hge
    have h2 : zcw j = none := by
      by_cases h4 : j < 375
      · rcases (show j = 372 ∨ j = 373 ∨ j = 374 by omega) with rfl | rfl | rfl <;> rfl
      · unfold zcw
        rw [List.getD_eq_getElem?_getD (l := zcws), List.getElem?_eq_none (by show 15 ≤ j / 25; omega)]
        rfl
    exact hcw h2
  have hB := zcw_ok hq hw
  have hcode := zmt_code hjl hq
  have hTj := hT j (by omega)
  have hTj2 := hTj
  unfold zokJ at hTj2
  rw [hq] at hTj2
  simp only [Bool.and_eq_true, decide_eq_true_eq] at hTj2
  obtain ⟨⟨hcls, hml⟩, -⟩ := hTj2
  have hoc : q.2.2.2.2 ≠ 24 := by
    rw [zmt_oc hjl hq]
    exact zkc_oc hj
  unfold zcwB at hB
  simp only [Bool.and_eq_true] at hB
  have hpl := hB.1.2
  refine Met.ofW hpl rfl (fun p e s m args below meth c s₁ B hml2 hP => ?_)
  obtain ⟨rfl, hrep, hSt, hK, hbs, hNw⟩ := hP
  have hws : ∀ w ∈ (Cond.code q.1 q.2.1 q.2.2.1 q.2.2.2.1 :: zwg), w.before avs.toArray s = true := atoms_spec B.pre
  have hall : ∀ w ∈ zwl, w.before avs.toArray s = true := zNw_use (fun w hw => hws w (List.mem_cons_of_mem _ hw)) hNw
  have hown : s.vm.findClass (zow q.2.2.2.2) = some m.cls := by rw [← hcls]; exact findClass_of_methodNamed B.named
  have hC : zCtx K (zow q.2.2.2.2) q.1.name q.2.1 p s m avs.toArray meth c := ⟨B.exec, B.bytes, hown, hall, hK, hSt, hbs, B.notSynchronized, (name_of_methodNamed B.named B.method).1⟩
  rw [show zEm ph (d + 1) j as M = (if j = 373 then zhelp (zEm ph d) 5 as M else if j = 374 then zhelp (zEm ph d) 7 as M else match zinit (zml j) as with
    | some L => zlim (fun n => zexec ph (zEm ph d) j n 0 L [] M)
    | none => none) from rfl, if_neg (by omega), if_neg (by omega)] at h
  split at h
  · rename_i L hL
    obtain ⟨n, hn⟩ := zlim_ex h
    rw [hml] at hL
    obtain ⟨e1, e2⟩ := zent has hL
    rw [lg_entry_eq]
    have hgo := zrun (gs0 := gs) (below := below) (e := e) (R := (headSpec (Cond.code q.1 q.2.1 q.2.2.1 q.2.2.2.1 :: zwg) { frames := d + 1, cells := (M' (-1) 1 - M (-1) 1).toNat, slots := (M' (-1) 2 - M (-1) 2).toNat, locals := 60 * (d + 1) }).room) hTj hq hC B.returns hd ⟨Nat.le_refl _, Nat.le_refl _⟩ hoc hv ⟨Nat.le_refl _, Nat.le_refl _⟩ n [] 0 L [] M hn ⟨Int.le_refl _, Int.le_refl _⟩
    rw [List.append_nil] at hgo
    have hfin := hgo _ [] s.heap [] (by rw [zent_size e1]; exact hml2.symm) e2 trivial hrep ⟨Nat.le_refl _, fun _ _ _ => rfl, fun _ z => nomatch z⟩
    rw [Int.sub_self, Int.sub_self] at hfin
    exact hfin
  · cases h
