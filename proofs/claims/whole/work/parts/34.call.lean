/-! calls of every kind -/
/-- what every method at depth d keeps to -/
def zOK (l : Launch) (K : zK) (ph : Bool) (d : Nat) : Prop := ∀ (j : Nat) (q : zME) (as : List zV) (avs : List Value) (gs : zG) (M M' : zM) (v : zV), j ≠ 372 → zmt j = some q → zcw j ≠ none → zEm ph d j as M = some (v, M') → v.1 ≠ 99 → zVRs K gs as avs →
  Met l q.1 (Cond.code q.1 q.2.1 q.2.2.1 q.2.2.2.1 :: zwg) { frames := d, cells := (M' (-1) 1 - M (-1) 1).toNat, slots := (M' (-1) 2 - M (-1) 2).toNat, locals := 60 * d } (zPc K ph gs M avs) (zQc K ph gs v M') (M' (-1) 1 - M (-1) 1).toNat (M' (-1) 2 - M (-1) 2).toNat (zA K)
theorem zargs_spec : ∀ (n : Nat) (acc st as s : List zV), zargs n acc st = some (as, s) → ∃ pre : List zV, pre.length = n ∧ st = pre ++ s ∧ as = pre.reverse ++ acc
  | 0, acc, st, as, s, h => by
    cases h
    exact ⟨[], rfl, rfl, rfl⟩
  | n + 1, acc, [], as, s, h => by cases h
  | n + 1, acc, v :: st, as, s, h => by
    obtain ⟨pre, h1, h2, h3⟩ := zargs_spec n (v :: acc) st as s h
    exact ⟨v :: pre, by simp [h1], by simp [h2], by simp [h3]⟩
theorem zVRs_split {K : zK} {gs : zG} : ∀ {a b : List zV} {r : List Value}, zVRs K gs (a ++ b) r → ∃ ra rb, r = ra ++ rb ∧ zVRs K gs a ra ∧ zVRs K gs b rb ∧ ra.length = a.length
  | [], b, r, h => ⟨[], r, rfl, trivial, h, rfl⟩
  | v :: a, b, r, h => by
    obtain ⟨x, rl, rfl, h1, h2⟩ := zVRs_cons h
    obtain ⟨ra, rb, rfl, h3, h4, h5⟩ := zVRs_split h2
    exact ⟨x :: ra, rb, rfl, ⟨h1, h3⟩, h4, by simp [h5]⟩
theorem zVRs_append {K : zK} {gs : zG} : ∀ {a b : List zV} {ra rb : List Value}, zVRs K gs a ra → zVRs K gs b rb → zVRs K gs (a ++ b) (ra ++ rb)
  | [], _, [], _, _, h => h
  | [], _, _ :: _, _, h, _ => absurd h (by simp [zVRs])
  | _ :: _, _, [], _, h, _ => absurd h (by simp [zVRs])
  | _ :: _, _, _ :: _, _, h, h' => ⟨h.1, zVRs_append h.2 h'⟩
theorem zVRs_reverse {K : zK} {gs : zG} : ∀ {a : List zV} {ra : List Value}, zVRs K gs a ra → zVRs K gs a.reverse ra.reverse
  | [], [], _ => trivial
  | [], _ :: _, h => absurd h (by simp [zVRs])
  | _ :: _, [], h => absurd h (by simp [zVRs])
  | v :: a, r :: ra, h => by
    rw [List.reverse_cons, List.reverse_cons]
    exact zVRs_append (zVRs_reverse h.2) ⟨h.1, trivial⟩
theorem zLoc_app {K : zK} {gs gx : zG} {L : List zV} {ls : Array Slot} (h : zLoc K gs L ls) : zLoc K (gs ++ gx) L ls := ⟨h.1, h.2.1, fun i v hi hv => by
  obtain ⟨rv, h1, h2⟩ := h.2.2 i v hi hv
  exact ⟨rv, zVR_app h1, h2⟩⟩
theorem zsel_priv {y : MethodName} {C : String} {s : State} {args : Array Value} {n : Nat} (hy : y.cls ≠ "java/lang/invoke/MethodHandle" ∧ y.cls ≠ "java/lang/invoke/VarHandle") (hins : (Cond.instantiable C n).before args s = true) (hpriv : (Cond.privateMethod y).before args s = true) (hinst : (Cond.instanceMethod y).before args s = true) (hsame : (Cond.sameMethod y.cls y.cls y.name y.desc).before args s = true) :
    (Cond.selects C y y).before args s = true := by
  obtain ⟨c, _, hc, -⟩ := Cond.instantiable_spec hins
  obtain ⟨_, _, _, h1, h2, h3, -, -⟩ := Cond.sameMethod_found hsame
  have hp := Cond.privateMethod_at hpriv
  obtain ⟨_, r, k, -, q2, q3, -, kr, q5, q6⟩ := Cond.selects_spec (selects_self_of_private h1 h2 h3 hp hinst hy)
  cases q2.symm.trans (State.methodFound?_of_named q3 hy)
  obtain ⟨_, f, n1, n2, -⟩ := Cond.instanceMethod_spec hinst
  cases q3.symm.trans n1
  simp [Cond.before, Cond.holds, Cond.value, hc, q2, q3, q5, q6, selectMethod_private n2 (hp _ _ q3 n2)]
theorem zwg_good {c : Cond} (hc : c ∈ zwl) (hg : goodWord c = true) : GoodIn zwl (c :: zwg) := by
  intro w hw
  rcases List.mem_cons.mp hw with rfl | h
  · exact ⟨hc, good_of_word hg⟩
  · have := zwg_in h
    exact ⟨this.1, good_of_word this.2⟩
set_option maxRecDepth 20000 in
theorem zinstSB : Cond.instantiable zSBn 4 ∈ zwl := zwl_of (by decide +kernel) rfl
section ZC
variable {p : Program} {l : Launch} {e : Env} {R : Room} {s : State} {m : MethodId} {args : Array Value} {below : List Frame} {meth : Method} {c : Code} {Q : State → Prop} {H : Heap} {locs : List Loc} {K : zK} {ph : Bool} {gs : zG} {own nm : String} {cc : ByteArray} {pc : Nat} {M : zM}
/-- the receiver's cell -/
theorem zrecv (hC : zCtx K own nm cc p s m args meth c) {t x n : Int} {rv : Value} {C : String} (hv : zVR K gs (t, x, n) rv) (ht : zrcv t C = true) (h3 : zRep K ph gs M s H) (h4 : va_S (zA K) s.heap H locs) : ∃ b : Nat, rv = .ref b ∧ ∃ cellB : Cell, H[b]? = some cellB ∧ cellB.vm.isStatics = false ∧ s.vm.findClass C = some cellB.cls := by
  unfold zrcv at ht
  rw [Bool.or_eq_true] at ht
  rcases ht with ht | ht
  · rw [Bool.and_eq_true, decide_eq_true_iff, decide_eq_true_iff] at ht
    obtain ⟨rfl, rfl⟩ := ht
    obtain ⟨rfl, hr, -⟩ := zVR_stat hv (Or.inl ⟨by omega, by omega⟩)
    obtain ⟨-, -, -, -, -, -, -, -, hS, -⟩ := hC.2.2.2.2.2.1
    unfold zrng at hr
    rw [if_neg (by omega), if_neg (by omega), if_neg (by omega), if_neg (by omega)] at hr
    obtain ⟨i, rfl⟩ := Int.eq_ofNat_of_zero_le hr.1
    exact ⟨_, rfl, vk_recv hS (by omega) h4⟩
  · rw [Bool.and_eq_true, decide_eq_true_iff, decide_eq_true_iff] at ht
    obtain ⟨ht, hr⟩ := ht
    obtain ⟨k, q, -, hg, rfl⟩ := zVR_cell hv (by omega) (by omega) (by omega)
    obtain ⟨-, -, ws, hP, hD, hR⟩ := h3
    have hlt : k < ws.length := by rw [hR.1]; exact (List.getElem?_eq_some_iff.mp hg).1
    obtain ⟨w, hw⟩ : ∃ w, ws[k]? = some w := ⟨_, List.getElem?_eq_getElem hlt⟩
    have hc := hR.2.2 k _ w hg hw
    obtain ⟨c1, c2⟩ := hc
    dsimp only at c1 c2
    rw [if_neg (by omega), if_neg (by omega), if_neg (by omega)] at c2
    obtain ⟨ci, e1, -, r, fs, e3, e4, -, -⟩ := c2
    have hci : (t - 20).toNat = ci := by omega
    rw [hci, e3] at hr
    refine ⟨q, rfl, ?_⟩
    obtain ⟨a, wE⟩ := w
    dsimp only at c1 e4
    subst c1; subst e4
    have := va_recv hC.2.2.2.2.1 hP e3 hw
    rw [Option.map_some, Option.some.injEq] at hr
    rw [hr] at this
    exact this
end ZC
/-- what a call wants of the table -/
def zci (own : String) (i : Nat) (q : zME) (w : zCW) : Prop := if w.1 = 5 then Cond.methodLinkNest own i q.1 "ClogVotes" ∈ zwl else Cond.methodLink own i q.1 ∈ zwl
def zcd (cc : ByteArray) (pc i : Nat) (w : zCW) : Prop := if w.1 = 0 then decode cc pc = .ok (.invokestatic i, 3) else if w.1 = 1 ∨ w.1 = 3 ∨ w.1 = 6 then decode cc pc = .ok (.invokevirtual i, 3) else decode cc pc = .ok (.invokespecial i, 3)
theorem zs_call {p : Program} {l : Launch} {e : Env} {R : Room} {s : State} {m : MethodId} {args : Array Value} {below : List Frame} {meth : Method} {c : Code} {Q : State → Prop} {K : zK} {ph : Bool} {c0 s0 : Int} {gs : zG} {own nm : String} {cc : ByteArray} {pc : Nat} {L st : List zV} {M : zM} {i d tg : Nat} {q : zME} {w : zCW} {n v t : Int} {st' : List zV} {M' : zM} (hC : zCtx K own nm cc p s m args meth c) (hd : zOK l K ph d) (hRm : d + 1 ≤ R.frames ∧ 60 * (d + 1) ≤ R.locals) (hq : zmt tg = some q) (hw : zcw tg = some w) (htg : tg ≠ 372)
    (hlink : zci own i q w) (hdg : zcd cc pc i w) (hn : n = (w.2.1 : Int) + if w.1 = 0 then 0 else 1) (ht : t = if w.1 = 0 then -1 else w.2.2.2.2.2.2) (hk6 : w.1 ≤ 6) (hown4 : w.1 = 4 → own = zSBn)
    (hcs : c0 ≤ M (-1) 1 ∧ s0 ≤ M (-1) 2) (hlim : (M' (-1) 1 - c0).toNat ≤ R.cells ∧ (M' (-1) 2 - s0).toNat ≤ R.slots)
    (hs : zF8 (zEm ph d) tg [n, v, t] st M = some (st', M')) (hk : ∀ gx, zGo p l e R s m args below meth c Q K ph c0 s0 (gs ++ gx) (pc + 3) L st' M') : zGo p l e R s m args below meth c Q K ph c0 s0 gs pc L st M := by
  have hB := zcw_ok hq hw
  have hcode := zmt_code htg hq
  obtain ⟨y, bytes, maxL, ret, oc⟩ := q
  obtain ⟨kind, np, kin, kst, sel, same, rt⟩ := w
  unfold zcwB at hB
  dsimp only at hB hcode hn ht hk6
  simp only [Bool.and_eq_true, decide_eq_true_eq] at hB
  obtain ⟨⟨⟨⟨⟨⟨hpar, hmh⟩, hvh⟩, hini⟩, hml⟩, hpl⟩, hkind⟩ := hB
  have hini := zin?_ok hini
  unfold zF8 at hs
  dsimp only at hs
  split at hs
  · rename_i as s1 hargs
    split at hs
    · rename_i hz
      split at hs
      · rename_i wv M1 hcl
        obtain ⟨pre, p1, p2, p3⟩ := zargs_spec _ _ _ _ _ hargs
        rw [List.append_nil] at p3
        have hv99 : wv.1 ≠ 99 := by
          split at hs
          · split at hs
            · rename_i h98; intro z; rw [h98] at z; exact absurd z (by decide)
            · cases hs
          · split at hs
            · rename_i h98; intro z; rw [z] at h98; exact absurd h98 (by decide)
            · cases hs
        have hM1 : M1 = M' := by
          split at hs
          · split at hs
            · cases hs; rfl
            · cases hs
          · split at hs
            · cases hs; rfl
            · cases hs
        subst hM1
        have hmon := zEm_mon d tg as M wv M1 hcl
        have hc1 : (M (-1) 1 - c0).toNat + (M1 (-1) 1 - M (-1) 1).toNat = (M1 (-1) 1 - c0).toNat := by
          have := hmon.1; have := hcs.1; omega
        have hc2 : (M (-1) 2 - s0).toNat + (M1 (-1) 2 - M (-1) 2).toNat = (M1 (-1) 2 - s0).toNat := by
          have := hmon.2; have := hcs.2; omega
        intro ls rst H locs b0 b1 b2 b3 b4
        rw [p2] at b2
        obtain ⟨rpre, rrest, rfl, b2a, b2b, hlen⟩ := zVRs_split b2
        have has : zVRs K gs as rpre.reverse := by rw [p3]; exact zVRs_reverse b2a
        have hM := hd tg (y, bytes, maxL, ret, oc) as rpre.reverse gs M M1 wv htg hq (by rw [hw]; simp) hcl hv99 has
        dsimp only at hM
        have h8 : 2 * (F0 m pc ls (rpre ++ rrest)).monitorRoom + (rrest.map fun v => v.category).sum ≤ 8 := by
          have := zroom_8 b2b hz.1
          show 2 * 0 + _ ≤ 8
          omega
        have hS : CallFix p m c cc c.maxLocals s args zwl own := ⟨hC.1, hC.2.1, rfl, hC.2.2.1, hC.2.2.2.1⟩
        have hcodeW : Cond.code y bytes maxL ret ∈ zwl := zwl_of hcode rfl
        have hG : GoodIn zwl (Cond.code y bytes maxL ret :: zwg) := zwg_good hcodeW rfl
        have hP := zPre hC rpre.reverse b3 b4
        have hRR : d + 1 ≤ R.frames ∧ 8 + (maxL + 11) + 60 * d ≤ R.locals := ⟨hRm.1, by have := hRm.2; omega⟩
        have hlims : (M (-1) 1 - c0).toNat + (M1 (-1) 1 - M (-1) 1).toNat ≤ R.cells ∧ (M (-1) 2 - s0).toNat + (M1 (-1) 2 - M (-1) 2).toNat ≤ R.slots := by rw [hc1, hc2]; exact hlim
        -- how the caller goes on
        have fin : ∀ {a : Array Value}, va_Run p l e R s m args below meth c H locs (M (-1) 1 - c0).toNat (M (-1) 2 - s0).toNat (M1 (-1) 1 - M (-1) 1).toNat (M1 (-1) 2 - M (-1) 2).toNat (F0 m pc ls (rpre ++ rrest)) rrest (zQc K ph gs wv M1 a) (zA K) → W p l e R s m args below meth c H locs (M (-1) 1 - c0).toNat (M (-1) 2 - s0).toNat Q (F0 m pc ls (rpre ++ rrest)) := by
          intro a hr
          refine zcall_W hC hr b4 (fun gx rv H1 locs1 hret hrep hS1 => ?_)
          rw [hc1, hc2]
          refine hk gx ls _ H1 locs1 b0 (zLoc_app b1) ?_ hrep hS1
          unfold zRet at hret
          split at hs
          · split at hs
            · rename_i h98
              rw [if_pos h98] at hret
              cases hs
              subst hret
              exact zVRs_app b2b
            · cases hs
          · split at hs
            · rename_i h98
              rw [if_neg (by omega)] at hret
              cases hs
              obtain ⟨r, rfl, hr2⟩ := hret
              exact ⟨hr2, zVRs_app b2b⟩
            · cases hs
        unfold zci at hlink
        unfold zcd at hdg
        dsimp only at hlink hdg
        by_cases k0 : kind = 0
        · subst k0
          rw [if_pos rfl] at hdg hn
          rw [if_neg (by omega)] at hlink
          have hcb : CallB R s args own i y bytes maxL ret (Cond.code y bytes maxL ret :: zwg) { frames := d, cells := (M1 (-1) 1 - M (-1) 1).toNat, slots := (M1 (-1) 2 - M (-1) 2).toNat, locals := 60 * d } (M1 (-1) 1 - M (-1) 1).toNat (M1 (-1) 2 - M (-1) 2).toNat np := callB_of np hC.2.2.2.1 hG rfl rfl rfl (hC.2.2.2.1 _ hini) (hC.2.2.2.1 _ hlink) ⟨hmh, hvh, hpar⟩ hRR
          exact fin (va_runS (rest := rrest) (As := rpre.reverse) (g := F0 m pc ls (rpre ++ rrest)) hS hM ⟨hcb, hC.2.2.2.1 _ (zin?_ok hkind)⟩ hP rfl (by rw [List.length_reverse, hlen, p1]; omega) b0 (by rw [List.reverse_reverse]) h8 hdg hlims)
        · rw [if_neg k0] at hn hdg ht
          -- a receiver
          have hpre0 : pre ≠ [] := by intro z; rw [z] at p1; simp at p1; omega
          obtain ⟨rv, avs', hav⟩ : ∃ rv avs', rpre.reverse = rv :: avs' := by
            cases hx : rpre.reverse with
            | nil =>
              exfalso
              have h2 : rpre.reverse.length = 0 := by rw [hx]; rfl
              rw [List.length_reverse, hlen] at h2
              exact hpre0 (List.eq_nil_of_length_eq_zero h2)
            | cons a b => exact ⟨a, b, rfl⟩
          obtain ⟨r0, as', ha'⟩ : ∃ r0 as', as = r0 :: as' := by
            cases as with
            | nil => rw [hav] at has; exact absurd has (by simp [zVRs])
            | cons a b => exact ⟨a, b, rfl⟩
          rw [ha', hav] at has
          have hr0 := has.1
          have htag : r0.1 = rt := by
            rcases hz.2 with h | h
            · rw [ht] at h
              exfalso
              match kind, hk6, k0, hkind with
              | 1, _, _, hkind => simp [zrcv] at hkind; omega
              | 2, _, _, hkind => simp at hkind; omega
              | 3, _, _, hkind => simp at hkind; omega
              | 4, _, _, hkind => simp at hkind; omega
              | 5, _, _, hkind => simp at hkind; omega
              | 6, _, _, hkind => simp at hkind; omega
            · rw [ha', ht] at h; exact h
          have hlenA : avs'.length = np := by
            have h2 : rpre.reverse.length = avs'.length + 1 := by rw [hav]; rfl
            rw [List.length_reverse, hlen, p1] at h2
            omega
          have hrp : rpre = avs'.reverse ++ [rv] := by
            have := congrArg List.reverse hav
            rw [List.reverse_reverse, List.reverse_cons] at this
            exact this
          have hstk : ∀ b : Nat, rv = .ref b → (F0 m pc ls (rpre ++ rrest)).stack = avs'.reverse ++ .ref b :: rrest := by
            intro b hb
            show rpre ++ rrest = _
            rw [hrp, hb, List.append_assoc]; rfl
          rw [hav] at hP hM
          obtain ⟨rt0, rx, rn⟩ := r0
          dsimp only at htag
          subst htag
          have virt : ∀ (C : String), zrcv rt0 C = true → (Cond.selects C y y).before args s = true → (Cond.instanceMethod y) ∈ zwl → kind ≠ 5 → decode cc pc = .ok (.invokevirtual i, 3) → W p l e R s m args below meth c H locs (M (-1) 1 - c0).toNat (M (-1) 2 - s0).toNat Q (F0 m pc ls (rpre ++ rrest)) := by
            intro C hrc hsel hinst k5 hdg
            rw [if_neg k5] at hlink
            obtain ⟨b, rfl, hcell⟩ := zrecv hC hr0 hrc b3 b4
            have hcb : CallB R s args own i y bytes maxL ret (Cond.code y bytes maxL ret :: zwg) { frames := d, cells := (M1 (-1) 1 - M (-1) 1).toNat, slots := (M1 (-1) 2 - M (-1) 2).toNat, locals := 60 * d } (M1 (-1) 1 - M (-1) 1).toNat (M1 (-1) 2 - M (-1) 2).toNat np := callB_of np hC.2.2.2.1 hG rfl rfl rfl (hC.2.2.2.1 _ hini) (hC.2.2.2.1 _ hlink) ⟨hmh, hvh, hpar⟩ hRR
            exact fin (va_runV (C := C) (b := b) (rest := rrest) (As := avs') (g := F0 m pc ls (rpre ++ rrest)) hS hM ⟨hcb, hC.2.2.2.1 _ hinst, hsel⟩ ⟨hP.1, hcell, hP.2⟩ rfl hlenA b0 (hstk b rfl) h8 hdg hlims)
          match kind, hk6, k0, hkind, hlink, hdg, virt, hown4 with
          | 1, _, _, hkind, hlink, hdg, virt, _ =>
            simp only [Bool.and_eq_true] at hkind
            rw [if_pos (by omega)] at hdg
            exact virt y.cls hkind.2 (hC.2.2.2.1 _ (zin?_ok hkind.1.2)) (zin?_ok hkind.1.1) (by omega) hdg
          | 3, _, _, hkind, hlink, hdg, virt, _ =>
            simp only [Bool.and_eq_true, decide_eq_true_eq] at hkind
            rw [if_pos (by omega)] at hdg
            refine virt zSBn (by rw [hkind.2]; decide +kernel) (hC.2.2.2.1 _ (List.mem_append_right _ (List.mem_map.mpr ⟨y, hkind.1.2, rfl⟩))) (zin?_ok hkind.1.1) (by omega) hdg
          | 6, _, _, hkind, hlink, hdg, virt, _ =>
            simp only [Bool.and_eq_true, decide_eq_true_eq] at hkind
            rw [if_pos (by omega)] at hdg
            refine virt zSBn (by rw [hkind.2]; decide +kernel) (hC.2.2.2.1 _ (zin?_ok hkind.1.2)) (zin?_ok hkind.1.1) (by omega) hdg
          | 2, _, _, hkind, hlink, hdg, virt, _ =>
            simp only [Bool.and_eq_true, decide_eq_true_eq] at hkind
            obtain ⟨⟨⟨hinst, hname⟩, hret⟩, h20⟩ := hkind
            subst hret
            rw [if_neg (by omega)] at hdg hlink
            obtain ⟨k, b, -, -, rfl⟩ := zVR_cell hr0 (by omega) (by omega) (by omega)
            have hcb := cwI (rm := { frames := d, cells := (M1 (-1) 1 - M (-1) 1).toNat, slots := (M1 (-1) 2 - M (-1) 2).toNat, locals := 60 * d }) (R := R) (mc := (M1 (-1) 1 - M (-1) 1).toNat) (ms := (M1 (-1) 2 - M (-1) 2).toNat) np hC.2.2.2.1 hG rfl rfl rfl (hC.2.2.2.1 _ hini) (hC.2.2.2.1 _ hlink) (hC.2.2.2.1 _ (zin?_ok hinst)) hname ⟨hmh, hvh, hpar⟩ hRR
            exact fin (va_runI (b := b) (rest := rrest) (As := avs') (g := F0 m pc ls (rpre ++ rrest)) hS hM hcb hP rfl hlenA b0 (hstk b rfl) h8 hdg hlims)
          | 5, _, _, hkind, hlink, hdg, virt, _ =>
            simp only [Bool.and_eq_true, decide_eq_true_eq] at hkind
            obtain ⟨⟨⟨hinst, hname⟩, hret⟩, h20⟩ := hkind
            subst hret
            rw [if_neg (by omega)] at hdg
            rw [if_pos rfl] at hlink
            obtain ⟨k, b, -, -, rfl⟩ := zVR_cell hr0 (by omega) (by omega) (by omega)
            have hcb := va_cnB (host := "ClogVotes") (rm := { frames := d, cells := (M1 (-1) 1 - M (-1) 1).toNat, slots := (M1 (-1) 2 - M (-1) 2).toNat, locals := 60 * d }) (R := R) (mc := (M1 (-1) 1 - M (-1) 1).toNat) (ms := (M1 (-1) 2 - M (-1) 2).toNat) np hC.2.2.2.1 hG rfl rfl rfl (va_Nw.of rfl (hC.2.2.2.1 _ hlink)) (hC.2.2.2.1 _ hini) ⟨hmh, hvh, hpar⟩ hRR
            exact fin (va_runIN (b := b) (rest := rrest) (As := avs') (g := F0 m pc ls (rpre ++ rrest)) hS hM ⟨hcb, hname, hC.2.2.2.1 _ (zin?_ok hinst)⟩ hP rfl hlenA b0 (hstk b rfl) h8 hdg hlims)
          | 4, _, _, hkind, hlink, hdg, virt, hown4 =>
            simp only [Bool.and_eq_true, decide_eq_true_eq] at hkind
            obtain ⟨⟨⟨⟨hinst, hsup⟩, hsame⟩, hname⟩, h31⟩ := hkind
            have hown := (hown4 rfl).symm
            rw [if_neg (by omega)] at hdg hlink
            have hrc : zrcv rt0 zSBn = true := by rw [h31]; decide +kernel
            obtain ⟨b, rfl, hcell⟩ := zrecv hC hr0 hrc b3 b4
            obtain ⟨cC, kC, f1, f2, f3, -⟩ := Cond.instantiable_spec (hC.2.2.2.1 _ zinstSB)
            have hcs : va_CS R s args own i y bytes maxL ret (Cond.code y bytes maxL ret :: zwg) { frames := d, cells := (M1 (-1) 1 - M (-1) 1).toNat, slots := (M1 (-1) 2 - M (-1) 2).toNat, locals := 60 * d } (M1 (-1) 1 - M (-1) 1).toNat (M1 (-1) 2 - M (-1) 2).toNat np :=
              ⟨⟨rfl, rfl, hRR.1, hRR.2, pay_in hC.2.2.2.1 hG, List.mem_cons_self⟩, hC.2.2.2.1 _ hlink, hC.2.2.2.1 _ (zin?_ok hsame), (hown ▸ hC.2.2.2.1 _ (zin?_ok hsup)), hC.2.2.2.1 _ (zin?_ok hinst), hC.2.2.2.1 _ hini, hC.2.2.2.1 _ hcodeW, hname, fun sig h => by
                rw [h] at hpar
                exact (Option.some.inj hpar).symm⟩
            exact fin (va_runSU (C := zSBn) (cC := cC) (b := b) (rest := rrest) (As := avs') (g := F0 m pc ls (rpre ++ rrest)) ⟨f1, kC, f2, f3⟩ hS hM hcs ⟨hP.1, hcell, hP.2⟩ rfl hlenA b0 (hstk b rfl) h8 hdg hlims)
      · cases hs
    · cases hs
  · cases hs
