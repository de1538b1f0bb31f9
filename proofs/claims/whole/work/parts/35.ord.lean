/-! a method's first frame; a word's number -/
theorem zspr_1 (x n : Int) (l : List zV) : zspr ((1, x, n) :: l) = (1, x, n) :: (3, 0, 0) :: zspr l := rfl
theorem zspr_o {t x n : Int} (h : t ≠ 1) (l : List zV) : zspr ((t, x, n) :: l) = (t, x, n) :: zspr l := by
  rw [zspr]
  intro x' n' hh
  exact h (congrArg (fun v : zV => v.1) hh)
theorem lg_sl_2 {v : Value} (h : v.category = 2) (l : List Value) : lg_sl (v :: l) = .val v :: .second :: lg_sl l := by simp [lg_sl, h]
theorem lg_sl_1 {v : Value} (h : v.category = 1) (l : List Value) : lg_sl (v :: l) = .val v :: lg_sl l := by simp [lg_sl, h]
theorem zent_get {K : zK} {gs : zG} : ∀ {as : List zV} {avs : List Value}, zVRs K gs as avs → (lg_sl avs).length = (zspr as).length ∧ ∀ (i : Nat) (v : zV), (zspr as)[i]? = some v → v.1 ≠ 3 → ∃ rv, zVR K gs v rv ∧ (lg_sl avs)[i]? = some (.val rv)
  | [], [], _ => ⟨rfl, fun i v h => by simp [zspr] at h⟩
  | [], _ :: _, h => absurd h (by simp [zVRs])
  | _ :: _, [], h => absurd h (by simp [zVRs])
  | (t, x, n) :: as, r :: avs, h => by
    obtain ⟨ih1, ih2⟩ := zent_get h.2
    have hc := zVR_cat h.1
    by_cases ht : t = 1
    · subst ht
      rw [if_pos rfl] at hc
      rw [lg_sl_2 hc, zspr_1]
      refine ⟨by simp [ih1], fun i v hi hv => ?_⟩
      match i, hi with
      | 0, hi => cases hi; exact ⟨r, h.1, rfl⟩
      | 1, hi => cases hi; exact absurd rfl hv
      | i + 2, hi => exact ih2 i v hi hv
    · rw [if_neg ht] at hc
      rw [lg_sl_1 hc, zspr_o ht]
      refine ⟨by simp [ih1], fun i v hi hv => ?_⟩
      match i, hi with
      | 0, hi => cases hi; exact ⟨r, h.1, rfl⟩
      | i + 1, hi => exact ih2 i v hi hv
theorem zent {K : zK} {gs : zG} {as L : List zV} {avs : List Value} {n : Nat} (h : zVRs K gs as avs) (hL : zinit n as = some L) : (lg_sl avs).length ≤ n ∧ zLoc K gs L ((lg_sl avs ++ List.replicate (n - (lg_sl avs).length) Slot.unset).toArray) := by
  obtain ⟨h1, h2⟩ := zent_get h
  unfold zinit at hL
  split at hL
  · rename_i hn
    cases hL
    have hn' : (lg_sl avs).length ≤ n := by omega
    obtain ⟨g1, g2, -⟩ := lv_entry avs hn'
    refine ⟨hn', ?_, g2, fun i v hi hv => ?_⟩
    · rw [g1, List.length_append, List.length_replicate]; omega
    · by_cases hlt : i < (zspr as).length
      · rw [List.getElem?_append_left hlt] at hi
        obtain ⟨rv, a1, a2⟩ := h2 i v hi hv
        refine ⟨rv, a1, ?_⟩
        rw [List.getElem?_toArray, List.getElem?_append_left (by omega)]
        exact a2
      · exfalso
        rw [List.getElem?_append_right (by omega), List.getElem?_replicate] at hi
        split at hi
        · cases hi; exact hv rfl
        · cases hi
  · cases hL
theorem zent_size {avs : List Value} {n : Nat} (h : (lg_sl avs).length ≤ n) : ((lg_sl avs ++ List.replicate (n - (lg_sl avs).length) Slot.unset).toArray).size = n := (lv_entry avs h).1
/-- the number of a word -/
def zyo : MethodName := ⟨"java/lang/Enum", "ordinal", "()I"⟩
def zyw : MethodName := ⟨"ClogVotes$Word", "ordinal", "()I"⟩
theorem zyo_in : zin? 787 (.instanceMethod zyo) = true ∧ zin? 788 (.code zyo prog_22_method_2_code 1 (some .int)) = true ∧ zin? 2383 (.fieldLink "java/lang/Enum" 7 "java/lang/Enum" "ordinal" "I") = true ∧ zin? 786 (.selects "ClogVotes$Word" zyw zyo) = true ∧ zin? 784 (.sameMethod "ClogVotes$Word" "java/lang/Enum" "ordinal" "()I") = true ∧ zin? 128 (.initialized "java/lang/Enum") = true := ⟨by decide +kernel, by decide +kernel, by decide +kernel, by decide +kernel, by decide +kernel, by decide +kernel⟩
theorem zord_Met (l : Launch) (K : zK) (en : Nat) (hen : en < 34) : Met l zyo (.code zyo prog_22_method_2_code 1 (some .int) :: zwg) { frames := 0, cells := 0, slots := 0, locals := 0 } (fun a U => a = #[.ref (zsa K 4 ((en : Int) + 1))] ∧ zSt K U) (fun _ st o t => o = .returned (some (.int (Int32.ofNat en))) ∧ t.heap = st.heap) 0 0 (fun _ => False) := by
  refine Met.ofW rfl rfl (fun p e s m args below meth c s₁ B hml hP => ?_)
  obtain ⟨rfl, hSt⟩ := hP
  have hws : ∀ w ∈ (Cond.code zyo prog_22_method_2_code 1 (some .int) :: zwg), w.before #[.ref (zsa K 4 ((en : Int) + 1))] s = true := atoms_spec B.pre
  have hown : s.vm.findClass "java/lang/Enum" = some m.cls := findClass_of_methodNamed B.named
  have hf := hws _ (List.mem_cons_of_mem _ (List.mem_filter.mpr ⟨zin?_ok zyo_in.2.2.1, rfl⟩))
  show W p l e _ s m _ below meth c s.heap [] 0 0 _ (entryFrame m ([Value.ref (zsa K 4 ((en : Int) + 1))]).toArray 1)
  rw [lg_entry_eq]
  refine lv_aload_n (k := 0) (i := 0) B.exec B.bytes (by decide +kernel) rfl rfl ?_
  refine va_getE B.exec B.bytes hSt.1 (i := en) (by show en < 34; exact hen) ⟨Nat.le_refl _, fun _ _ _ => rfl, fun _ h => nomatch h⟩ hown (q := ("java/lang/Enum", "ordinal", "I", zord)) (by simp) hf (fun _ z => z) (by decide +kernel) ?_
  have hz : zord.getD en 0 = Int32.ofNat en := by
    unfold zord
    rw [List.getD_eq_getElem?_getD, List.getElem?_map, List.getElem?_range hen]
    rfl
  show W p l e _ s m _ below meth c s.heap [] 0 0 _ (F0 m _ _ [.int (zord.getD en 0)])
  rw [hz]
  exact W.iret B.exec B.bytes B.returns (fun t ht _ => ⟨rfl, ht⟩) (fun _ h => nomatch h) (by decide +kernel) B.notSynchronized
theorem zs_ord {p : Program} {l : Launch} {e : Env} {R : Room} {s : State} {m : MethodId} {args : Array Value} {below : List Frame} {meth : Method} {c : Code} {Q : State → Prop} {K : zK} {ph : Bool} {c0 s0 : Int} {gs : zG} {own nm : String} {cc : ByteArray} {pc : Nat} {L st : List zV} {M : zM} {i : Nat} {st' : List zV} (hC : zCtx K own nm cc p s m args meth c) (hRm : 1 ≤ R.frames ∧ 60 ≤ R.locals) (hcl : (M (-1) 1 - c0).toNat ≤ R.cells ∧ (M (-1) 2 - s0).toNat ≤ R.slots) (hdg : decode cc pc = .ok (.invokevirtual i, 3)) (hw : Cond.methodLink own i zyw ∈ zwl)
    (hs : zF5_o st = some st') (hk : zGo p l e R s m args below meth c Q K ph c0 s0 gs (pc + 3) L st' M) : zGo p l e R s m args below meth c Q K ph c0 s0 gs pc L st M := by
  unfold zF5_o at hs
  split at hs
  · rename_i x y st
    split at hs
    · rename_i hz
      cases hs
      intro ls rst H locs b0 b1 b2 b3 b4
      obtain ⟨rv, rst, rfl, hv, b2a⟩ := zVRs_cons b2
      obtain ⟨rfl, hr, -⟩ := zVR_stat hv (Or.inl ⟨by omega, by omega⟩)
      unfold zrng at hr
      rw [if_pos rfl] at hr
      obtain ⟨en, rfl⟩ : ∃ en : Nat, x = (en : Int) + 1 := ⟨(x - 1).toNat, by omega⟩
      have hen : en < 34 := by omega
      have h8 : 2 * (F0 m pc ls (.ref (zsa K 4 ((en : Int) + 1)) :: rst)).monitorRoom + (rst.map fun v => v.category).sum ≤ 8 := by
        have := zroom_8 b2a hz
        show 2 * 0 + _ ≤ 8
        omega
      have W0 := hC.2.2.2.1
      have hcd := zin?_ok zyo_in.2.1
      have hins := W0 _ (zin?_ok zyo_in.1)
      have hcu : va_CU R s args own "ClogVotes$Word" "java/lang/Enum" i zyw zyo prog_22_method_2_code 1 (some .int) (.code zyo prog_22_method_2_code 1 (some .int) :: zwg) { frames := 0, cells := 0, slots := 0, locals := 0 } 0 0 0 :=
        ⟨⟨rfl, rfl, hRm.1, by have := hRm.2; show 8 + (1 + 11) + 0 ≤ _; omega, pay_in W0 (zwg_good hcd rfl), List.mem_cons_self⟩, W0 _ hcd, W0 _ (zin?_ok zyo_in.2.2.2.2.2), ⟨by decide, by decide⟩, fun sig h => by
          have h2 : (parseMethodDescriptor zyw.desc).map (fun d => d.parameters.length) = some 0 := by decide +kernel
          rw [h] at h2
          exact (Option.some.inj h2).symm, W0 _ hw, W0 _ (zin?_ok zyo_in.2.2.2.2.1), va_Decl.of hins (W0 _ hcd), W0 _ (zin?_ok zyo_in.2.2.2.1), hins⟩
      have hSt := hC.2.2.2.2.2.1
      have hr := va_runU (C := "ClogVotes$Word") (cells := (M (-1) 1 - c0).toNat) (slots := (M (-1) 2 - s0).toNat) (below := below) (e := e) (meth := meth) (locs := locs) (b := zsa K 4 ((en : Int) + 1)) (rest := rst) (As := []) (g := F0 m pc ls (.ref (zsa K 4 ((en : Int) + 1)) :: rst)) (⟨hC.1, hC.2.1, rfl, hC.2.2.1, W0⟩ : CallFix p m c cc c.maxLocals s args zwl own) (zord_Met l K en hen) hcu
        ⟨fun a U g mk h => ⟨h.1, zSt_moved (s := U) (U := U.calling g mk a) h.2 (State.WarmedH.refl U) (fun _ _ _ => rfl) (Nat.le_refl _)⟩, va_recvE hSt.1 (by show en < 34; exact hen) b4, fun U hU hW => ⟨rfl, zSt_moved hSt hW (fun q h1 h2 => by rw [hU]; exact b4.2.1 q h1 h2) (by rw [hU]; exact b4.1)⟩⟩
        rfl rfl b0 rfl h8 hdg ⟨by omega, by omega⟩
      intro T hT X
      obtain ⟨v', st₀, t, T', L2, h0, X', hL, e1, e2, ⟨hv1, hv2⟩, st⟩ := hr T hT X
      cases hv1
      obtain ⟨t2, a1, b1'⟩ := hk ls (_ :: rst) H locs b0 b1 ⟨zVR_mki (x := (en : Int) + 1 - 1) (Int32.ofNat en) (by
        have : (Int32.ofNat en).toInt = en := by
          rw [Int32.toInt_ofNat_of_lt (by omega)]
        rw [this]; omega), b2a⟩ b3 b4 T' (by rw [e1, hv2, h0]) (Stand.forget X' (fun q h => (hL q h).elim))
      exact ⟨t2, st t2 a1, b1'⟩
    · cases hs
  · cases hs
