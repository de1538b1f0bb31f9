/-! objects made, calls; the dispatch -/
set_option maxRecDepth 20000 in
theorem zcls_new {ci : Nat} {r : vw_C} (h : zcls[ci]? = some r) : Cond.instantiable r.1 r.2.2 ∈ zwl ∧ Cond.initialized r.1 ∈ zwl := by
  have hc : ci < 12 := (List.getElem?_eq_some_iff.mp h).1
  rcases (show ci = 0 ∨ ci = 1 ∨ ci = 2 ∨ ci = 3 ∨ ci = 4 ∨ ci = 5 ∨ ci = 6 ∨ ci = 7 ∨ ci = 8 ∨ ci = 9 ∨ ci = 10 ∨ ci = 11 by omega) with rfl | rfl | rfl | rfl | rfl | rfl | rfl | rfl | rfl | rfl | rfl | rfl <;> cases h <;> exact ⟨zwl_of (by decide +kernel) rfl, zwl_of (by decide +kernel) rfl⟩
theorem zd_new {p : Program} {l : Launch} {e : Env} {R : Room} {s : State} {m : MethodId} {args : Array Value} {below : List Frame} {meth : Method} {c : Code} {Q : State → Prop} {K : zK} {ph : Bool} {c0 s0 : Int} {gs : zG} {nm : String} {cc : ByteArray} {pc : Nat} {L st : List zV} {M : zM} {d oc op nx tg len : Nat} {ret : Option FieldType} {r : List Int} {q : zC} {i : Nat} (hC : zCtx K (zow oc) nm cc p s m args meth c) (hH : zHy l R K ph c0 s0 d M q.2.2.2) (hdg : decode cc pc = .ok (.new i, len)) (hck : zokI oc nm ret pc op nx tg r (.new i) len = true) (hst : zstep ph (zEm ph d) op nx tg r L st M = some (.inl q)) (hk : ∀ gx, zGo p l e R s m args below meth c Q K ph c0 s0 (gs ++ gx) q.1 q.2.1 q.2.2.1 q.2.2.2) : zGo p l e R s m args below meth c Q K ph c0 s0 gs pc L st M := by
  simp only [zokI, Bool.and_eq_true, Bool.or_eq_true, beq_iff_eq, decide_eq_true_eq] at hck
  obtain ⟨⟨rfl, rfl⟩, hck⟩ := hck
  rcases hck with rfl | ⟨rfl, hck⟩
  · cases hst
  · unfold zkn at hck
    split at hck
    · rename_i a b hz
      split at hck
      · rename_i r' hr'
        simp only [decide_eq_true_eq] at hck
        subst hck
        obtain ⟨⟨st1, M1⟩, hw, rfl⟩ := zmap_inl (o := zF4 ph 95 [20 + (a.toNat : Int), (r'.2.2 : Int)] st M) (f := fun w => (_, L, w.1, w.2)) hst
        have hw : (if ph = false ∧ 0 ≤ (r'.2.2 : Int) then some ((20 + (a.toNat : Int), M (-1) 0, 0) :: st, znew M (r'.2.2 : Int)) else none) = some (st1, M1) := hw
        split at hw
        · rename_i hph
          cases hw
          exact zs_new hC hdg hph.1 hr' (zlkw8 hz hr') (zcls_new hr').1 (zcls_new hr').2 hH.2.2.1 hH.2.2.2 rfl rfl hk
        · cases hw
      · cases hck
    · cases hck
theorem zd_call {p : Program} {l : Launch} {e : Env} {R : Room} {s : State} {m : MethodId} {args : Array Value} {below : List Frame} {meth : Method} {c : Code} {Q : State → Prop} {K : zK} {ph : Bool} {c0 s0 : Int} {gs : zG} {nm : String} {cc : ByteArray} {pc : Nat} {L st : List zV} {M : zM} {d oc tg i ik : Nat} {r : List Int} {st' : List zV} {M' : zM} (hC : zCtx K (zow oc) nm cc p s m args meth c) (hH : zHy l R K ph c0 s0 d M M') (hx : ∀ (i' : Nat) (st' : List zV) (M' : zM), oc = 24 → ((tg = 373 ∧ Cond.methodLink (zow oc) i' ⟨"ClogVotesLaw", "hand", "(LClogVotes;II[J)I"⟩ ∈ zwl) ∨ (tg = 374 ∧ Cond.methodLink (zow oc) i' ⟨"ClogVotesLaw", "question", "(LClogVotes;II[J)I"⟩ ∈ zwl)) → decode cc pc = .ok (.invokestatic i', 3) → zF8 (zEm ph d) tg [4, 1, -1] st M = some (st', M') → ((M' (-1) 1 - c0).toNat ≤ R.cells ∧ (M' (-1) 2 - s0).toNat ≤ R.slots) → (∀ gx, zGo p l e R s m args below meth c Q K ph c0 s0 (gs ++ gx) (pc + 3) L st' M') → zGo p l e R s m args below meth c Q K ph c0 s0 gs pc L st M)
    (hdg : if ik = 0 then decode cc pc = .ok (.invokestatic i, 3) else if ik = 1 then decode cc pc = .ok (.invokevirtual i, 3) else decode cc pc = .ok (.invokespecial i, 3)) (hck : zkc? oc i ik tg r = true) (hs : zF8 (zEm ph d) tg r st M = some (st', M')) (hk : ∀ gx, zGo p l e R s m args below meth c Q K ph c0 s0 (gs ++ gx) (pc + 3) L st' M') : zGo p l e R s m args below meth c Q K ph c0 s0 gs pc L st M := by
  unfold zkc? at hck
  split at hck
  · rename_i k a b hz
    split at hck
    · rename_i w hw
      simp only [Bool.and_eq_true, Bool.or_eq_true, bne_iff_ne, ne_eq, decide_eq_true_eq] at hck
      obtain ⟨⟨⟨⟨⟨⟨⟨htg, hsome⟩, ha⟩, hkk⟩, h6⟩, hik⟩, hr⟩, h4⟩ := hck
      obtain ⟨q, hq⟩ := Option.isSome_iff_exists.mp hsome
      rw [hr] at hs
      subst ha
      obtain ⟨k', hl⟩ := zlook_ok hz
      refine zs_call (i := i) (q := q) (w := w) hC hH.1 hH.2.1 hq hw htg ?_ ?_ rfl rfl h6 (fun z => by rcases h4 with h | h; exact absurd z h; exact h) hH.2.2.1 hH.2.2.2 hs hk
      · unfold zci
        split
        · rename_i h5
          rw [if_pos h5] at hkk
          subst hkk
          have e : zlw (zow oc) (i, 2, (tg : Int), b, k') = (match zmt tg with
            | some q => Cond.methodLinkNest (zow oc) i q.1 "ClogVotes"
            | none => Cond.tt) := rfl
          dsimp only at hl
          rw [e, hq] at hl
          exact hl
        · rename_i h5
          rw [if_neg h5] at hkk
          subst hkk
          have e : zlw (zow oc) (i, 1, (tg : Int), b, k') = (match zmt tg with
            | some q => Cond.methodLink (zow oc) i q.1
            | none => Cond.tt) := rfl
          dsimp only at hl
          rw [e, hq] at hl
          exact hl
      · unfold zcd
        split
        · rename_i h0
          rw [if_pos h0] at hik
          rw [if_pos hik] at hdg
          exact hdg
        · rename_i h0
          rw [if_neg h0] at hik
          split
          · rename_i h1
            rw [if_pos h1] at hik
            rw [if_neg (by omega), if_pos hik] at hdg
            exact hdg
          · rename_i h1
            rw [if_neg h1] at hik
            rw [if_neg (by omega), if_neg (by omega)] at hdg
            exact hdg
    · simp only [Bool.and_eq_true, Bool.or_eq_true, beq_iff_eq, decide_eq_true_eq] at hck
      obtain ⟨⟨⟨⟨rfl, hoc⟩, rfl⟩, ha⟩, hr⟩ := hck
      rw [hr] at hs
      rw [if_pos rfl] at hdg
      refine hx i st' M' hoc ?_ hdg hs hH.2.2.2 hk
      rcases ha with ⟨rfl, rfl⟩ | ⟨rfl, rfl⟩
      · exact Or.inl ⟨rfl, zlkw10 hz rfl⟩
      · exact Or.inr ⟨rfl, zlkw10 hz rfl⟩
  · cases hck
theorem zkx_ok {oc i a : Nat} {y : MethodName} (h : zkx oc i a = true) (hy : ziml[a]? = some y) : Cond.methodLink (zow oc) i y ∈ zwl := by
  unfold zkx at h
  split at h
  · rename_i k x b hz
    simp only [Bool.and_eq_true, beq_iff_eq, decide_eq_true_eq] at h
    obtain ⟨rfl, rfl⟩ := h
    exact zlkw10 hz hy
  · cases h
set_option maxRecDepth 20000 in
theorem zimw : ((Cond.static Lib.Math.max.name ∈ zwl ∧ Cond.code Lib.Math.max.name Lib.Math.max.code 2 (some .int) ∈ zwl) ∧ (Cond.static Lib.Math.min.name ∈ zwl ∧ Cond.code Lib.Math.min.name Lib.Math.min.code 2 (some .int) ∈ zwl) ∧ (Cond.static Lib.Math.abs.name ∈ zwl ∧ Cond.code Lib.Math.abs.name Lib.Math.abs.code 1 (some .int) ∈ zwl)) ∧ (Cond.native arraycopyName ∈ zwl ∧ Cond.static arraycopyName ∈ zwl ∧ Cond.initialized "java/lang/System" ∈ zwl) ∧ (Cond.instanceMethod objectInit ∈ zwl ∧ Cond.code objectInit ⟨#[0xb1]⟩ 1 none ∈ zwl) ∧ Cond.initialized "java/lang/Math" ∈ zwl :=
  ⟨⟨⟨zwl_of (by decide +kernel) rfl, zwl_of (by decide +kernel) rfl⟩, ⟨zwl_of (by decide +kernel) rfl, zwl_of (by decide +kernel) rfl⟩, ⟨zwl_of (by decide +kernel) rfl, zwl_of (by decide +kernel) rfl⟩⟩, ⟨zwl_of (by decide +kernel) rfl, zwl_of (by decide +kernel) rfl, zwl_of (by decide +kernel) rfl⟩, ⟨zwl_of (by decide +kernel) rfl, zwl_of (by decide +kernel) rfl⟩, zwl_of (by decide +kernel) rfl⟩
theorem zd_invokestatic {p : Program} {l : Launch} {e : Env} {R : Room} {s : State} {m : MethodId} {args : Array Value} {below : List Frame} {meth : Method} {c : Code} {Q : State → Prop} {K : zK} {ph : Bool} {c0 s0 : Int} {gs : zG} {nm : String} {cc : ByteArray} {pc : Nat} {L st : List zV} {M : zM} {d oc op nx tg len : Nat} {ret : Option FieldType} {r : List Int} {q : zC} {i : Nat} (hC : zCtx K (zow oc) nm cc p s m args meth c) (hH : zHy l R K ph c0 s0 d M q.2.2.2) (hx : ∀ (i' : Nat) (st' : List zV) (M' : zM), oc = 24 → ((tg = 373 ∧ Cond.methodLink (zow oc) i' ⟨"ClogVotesLaw", "hand", "(LClogVotes;II[J)I"⟩ ∈ zwl) ∨ (tg = 374 ∧ Cond.methodLink (zow oc) i' ⟨"ClogVotesLaw", "question", "(LClogVotes;II[J)I"⟩ ∈ zwl)) → decode cc pc = .ok (.invokestatic i', 3) → zF8 (zEm ph d) tg [4, 1, -1] st M = some (st', M') → ((M' (-1) 1 - c0).toNat ≤ R.cells ∧ (M' (-1) 2 - s0).toNat ≤ R.slots) → (∀ gx, zGo p l e R s m args below meth c Q K ph c0 s0 (gs ++ gx) (pc + 3) L st' M') → zGo p l e R s m args below meth c Q K ph c0 s0 gs pc L st M) (hdg : decode cc pc = .ok (.invokestatic i, len)) (hck : zokI oc nm ret pc op nx tg r (.invokestatic i) len = true) (hst : zstep ph (zEm ph d) op nx tg r L st M = some (.inl q)) (hk : ∀ gx, zGo p l e R s m args below meth c Q K ph c0 s0 (gs ++ gx) q.1 q.2.1 q.2.2.1 q.2.2.2) : zGo p l e R s m args below meth c Q K ph c0 s0 gs pc L st M := by
  simp only [zokI, Bool.and_eq_true, Bool.or_eq_true, beq_iff_eq, decide_eq_true_eq] at hck
  obtain ⟨⟨rfl, rfl⟩, hck⟩ := hck
  rcases hck with ⟨rfl, hck⟩ | hck
  · obtain ⟨⟨st1, M1⟩, hw, rfl⟩ := zmap_inl (o := zF8 (zEm ph d) tg r st M) (f := fun w => (_, L, w.1, w.2)) hst
    exact zd_call (ik := 0) (i := i) hC hH hx hdg hck hw hk
  · simp only [zkm, Bool.and_eq_true, Bool.or_eq_true, beq_iff_eq] at hck
    have hk0 := hk []
    rw [List.append_nil] at hk0
    rcases hck with ((⟨rfl, hck⟩ | ⟨rfl, hck⟩) | ⟨rfl, hck⟩) | ⟨rfl, hck⟩
    · have hst : ((zF6_m 71 st).map fun w => (w, M)).map (fun w => (Sum.inl (pc + 3, L, w.1, w.2) : zC ⊕ (zV × zM))) = some (.inl q) := hst
      rw [Option.map_map] at hst
      obtain ⟨st1, hw, rfl⟩ := zmap_inl (o := zF6_m 71 st) (f := fun w => (pc + 3, L, w, M)) hst
      exact zs_max hC ⟨Nat.le_trans (Nat.le_add_left 1 d) hH.2.1.1, Nat.le_trans (by omega) hH.2.1.2⟩ hH.2.2.2 hdg ⟨zkx_ok hck rfl, zimw.1.1.1, zimw.2.2.2, zimw.1.1.2⟩ hw hk0
    · have hst : ((zF6_m 72 st).map fun w => (w, M)).map (fun w => (Sum.inl (pc + 3, L, w.1, w.2) : zC ⊕ (zV × zM))) = some (.inl q) := hst
      rw [Option.map_map] at hst
      obtain ⟨st1, hw, rfl⟩ := zmap_inl (o := zF6_m 72 st) (f := fun w => (pc + 3, L, w, M)) hst
      exact zs_min hC ⟨Nat.le_trans (Nat.le_add_left 1 d) hH.2.1.1, Nat.le_trans (by omega) hH.2.1.2⟩ hH.2.2.2 hdg ⟨zkx_ok hck rfl, zimw.1.2.1.1, zimw.2.2.2, zimw.1.2.1.2⟩ hw hk0
    · have hst : ((zF6_a st).map fun w => (w, M)).map (fun w => (Sum.inl (pc + 3, L, w.1, w.2) : zC ⊕ (zV × zM))) = some (.inl q) := hst
      rw [Option.map_map] at hst
      obtain ⟨st1, hw, rfl⟩ := zmap_inl (o := zF6_a st) (f := fun w => (pc + 3, L, w, M)) hst
      exact zs_abs hC ⟨Nat.le_trans (Nat.le_add_left 1 d) hH.2.1.1, Nat.le_trans (by omega) hH.2.1.2⟩ hH.2.2.2 hdg ⟨zkx_ok hck rfl, zimw.1.2.2.1, zimw.2.2.2, zimw.1.2.2.2⟩ hw hk0
    · obtain ⟨⟨st1, M1⟩, hw, rfl⟩ := zmap_inl (o := zF6_c st M) (f := fun w => (_, L, w.1, w.2)) hst
      exact zs_copy hC ⟨Nat.le_trans (Nat.le_add_left 1 d) hH.2.1.1, Nat.le_trans (by omega) hH.2.1.2⟩ hdg ⟨zkx_ok hck rfl, zimw.2.1.1, zimw.2.1.2.1, zimw.2.1.2.2⟩ hw hk0
theorem zd_invokevirtual {p : Program} {l : Launch} {e : Env} {R : Room} {s : State} {m : MethodId} {args : Array Value} {below : List Frame} {meth : Method} {c : Code} {Q : State → Prop} {K : zK} {ph : Bool} {c0 s0 : Int} {gs : zG} {nm : String} {cc : ByteArray} {pc : Nat} {L st : List zV} {M : zM} {d oc op nx tg len : Nat} {ret : Option FieldType} {r : List Int} {q : zC} {i : Nat} (hC : zCtx K (zow oc) nm cc p s m args meth c) (hH : zHy l R K ph c0 s0 d M q.2.2.2) (hx : ∀ (i' : Nat) (st' : List zV) (M' : zM), oc = 24 → ((tg = 373 ∧ Cond.methodLink (zow oc) i' ⟨"ClogVotesLaw", "hand", "(LClogVotes;II[J)I"⟩ ∈ zwl) ∨ (tg = 374 ∧ Cond.methodLink (zow oc) i' ⟨"ClogVotesLaw", "question", "(LClogVotes;II[J)I"⟩ ∈ zwl)) → decode cc pc = .ok (.invokestatic i', 3) → zF8 (zEm ph d) tg [4, 1, -1] st M = some (st', M') → ((M' (-1) 1 - c0).toNat ≤ R.cells ∧ (M' (-1) 2 - s0).toNat ≤ R.slots) → (∀ gx, zGo p l e R s m args below meth c Q K ph c0 s0 (gs ++ gx) (pc + 3) L st' M') → zGo p l e R s m args below meth c Q K ph c0 s0 gs pc L st M) (hdg : decode cc pc = .ok (.invokevirtual i, len)) (hck : zokI oc nm ret pc op nx tg r (.invokevirtual i) len = true) (hst : zstep ph (zEm ph d) op nx tg r L st M = some (.inl q)) (hk : ∀ gx, zGo p l e R s m args below meth c Q K ph c0 s0 (gs ++ gx) q.1 q.2.1 q.2.2.1 q.2.2.2) : zGo p l e R s m args below meth c Q K ph c0 s0 gs pc L st M := by
  simp only [zokI, Bool.and_eq_true, Bool.or_eq_true, beq_iff_eq, decide_eq_true_eq] at hck
  obtain ⟨⟨rfl, rfl⟩, hck⟩ := hck
  rcases hck with ⟨rfl, hck⟩ | ⟨rfl, hck⟩
  · obtain ⟨⟨st1, M1⟩, hw, rfl⟩ := zmap_inl (o := zF8 (zEm ph d) tg r st M) (f := fun w => (_, L, w.1, w.2)) hst
    exact zd_call (ik := 1) (i := i) hC hH hx hdg hck hw hk
  · have hk0 := hk []
    rw [List.append_nil] at hk0
    have hst : (zF5_o st).map (fun w => (Sum.inl (pc + 3, L, w, M) : zC ⊕ (zV × zM))) = some (.inl q) := hst
    obtain ⟨st1, hw, rfl⟩ := zmap_inl (o := zF5_o st) (f := fun w => (pc + 3, L, w, M)) hst
    exact zs_ord hC ⟨Nat.le_trans (Nat.le_add_left 1 d) hH.2.1.1, Nat.le_trans (by omega) hH.2.1.2⟩ hH.2.2.2 hdg (zkx_ok hck rfl) hw hk0
theorem zd_invokespecial {p : Program} {l : Launch} {e : Env} {R : Room} {s : State} {m : MethodId} {args : Array Value} {below : List Frame} {meth : Method} {c : Code} {Q : State → Prop} {K : zK} {ph : Bool} {c0 s0 : Int} {gs : zG} {nm : String} {cc : ByteArray} {pc : Nat} {L st : List zV} {M : zM} {d oc op nx tg len : Nat} {ret : Option FieldType} {r : List Int} {q : zC} {i : Nat} (hC : zCtx K (zow oc) nm cc p s m args meth c) (hH : zHy l R K ph c0 s0 d M q.2.2.2) (hx : ∀ (i' : Nat) (st' : List zV) (M' : zM), oc = 24 → ((tg = 373 ∧ Cond.methodLink (zow oc) i' ⟨"ClogVotesLaw", "hand", "(LClogVotes;II[J)I"⟩ ∈ zwl) ∨ (tg = 374 ∧ Cond.methodLink (zow oc) i' ⟨"ClogVotesLaw", "question", "(LClogVotes;II[J)I"⟩ ∈ zwl)) → decode cc pc = .ok (.invokestatic i', 3) → zF8 (zEm ph d) tg [4, 1, -1] st M = some (st', M') → ((M' (-1) 1 - c0).toNat ≤ R.cells ∧ (M' (-1) 2 - s0).toNat ≤ R.slots) → (∀ gx, zGo p l e R s m args below meth c Q K ph c0 s0 (gs ++ gx) (pc + 3) L st' M') → zGo p l e R s m args below meth c Q K ph c0 s0 gs pc L st M) (hdg : decode cc pc = .ok (.invokespecial i, len)) (hck : zokI oc nm ret pc op nx tg r (.invokespecial i) len = true) (hst : zstep ph (zEm ph d) op nx tg r L st M = some (.inl q)) (hk : ∀ gx, zGo p l e R s m args below meth c Q K ph c0 s0 (gs ++ gx) q.1 q.2.1 q.2.2.1 q.2.2.2) : zGo p l e R s m args below meth c Q K ph c0 s0 gs pc L st M := by
  simp only [zokI, Bool.and_eq_true, Bool.or_eq_true, beq_iff_eq, decide_eq_true_eq] at hck
  obtain ⟨⟨rfl, rfl⟩, hck⟩ := hck
  rcases hck with ⟨rfl, hck⟩ | ⟨rfl, hck⟩
  · obtain ⟨⟨st1, M1⟩, hw, rfl⟩ := zmap_inl (o := zF8 (zEm ph d) tg r st M) (f := fun w => (_, L, w.1, w.2)) hst
    exact zd_call (ik := 2) (i := i) hC hH hx hdg hck hw hk
  · have hk0 := hk []
    rw [List.append_nil] at hk0
    have hst : ((zF6_o st).map fun w => (w, M)).map (fun w => (Sum.inl (pc + 3, L, w.1, w.2) : zC ⊕ (zV × zM))) = some (.inl q) := hst
    rw [Option.map_map] at hst
    obtain ⟨st1, hw, rfl⟩ := zmap_inl (o := zF6_o st) (f := fun w => (pc + 3, L, w, M)) hst
    exact zs_objinit hC ⟨Nat.le_trans (Nat.le_add_left 1 d) hH.2.1.1, Nat.le_trans (by omega) hH.2.1.2⟩ hdg ⟨zkx_ok hck rfl, zimw.2.2.1.1, zimw.2.2.1.2⟩ hw hk0
theorem zret_not {ph : Bool} {cl : Nat → List zV → zM → zO} {op nx tg : Nat} {r : List Int} {L st : List zV} {M : zM} {q : zC} {ret : Option FieldType} (h : 80 ≤ op ∧ op < 84) : ¬ zstep ph cl op nx tg r L st M = some (.inl q) := by
  intro hst
  unfold zstep at hst
  rw [if_neg (by omega), if_neg (by omega), if_neg (by omega), if_neg (by omega), if_neg (by omega), if_neg (by omega), if_neg (by omega), if_pos (by omega)] at hst
  obtain ⟨a, -, h2⟩ := Option.map_eq_some_iff.mp hst
  cases h2
theorem zdisp {p : Program} {l : Launch} {e : Env} {R : Room} {s : State} {m : MethodId} {args : Array Value} {below : List Frame} {meth : Method} {c : Code} {Q : State → Prop} {K : zK} {ph : Bool} {c0 s0 : Int} {gs : zG} {nm : String} {cc : ByteArray} {pc : Nat} {L st : List zV} {M : zM} {d oc op nx tg len : Nat} {ret : Option FieldType} {r : List Int} {q : zC} {ins : Instr} (hC : zCtx K (zow oc) nm cc p s m args meth c) (hH : zHy l R K ph c0 s0 d M q.2.2.2) (hx : ∀ (i' : Nat) (st' : List zV) (M' : zM), oc = 24 → ((tg = 373 ∧ Cond.methodLink (zow oc) i' ⟨"ClogVotesLaw", "hand", "(LClogVotes;II[J)I"⟩ ∈ zwl) ∨ (tg = 374 ∧ Cond.methodLink (zow oc) i' ⟨"ClogVotesLaw", "question", "(LClogVotes;II[J)I"⟩ ∈ zwl)) → decode cc pc = .ok (.invokestatic i', 3) → zF8 (zEm ph d) tg [4, 1, -1] st M = some (st', M') → ((M' (-1) 1 - c0).toNat ≤ R.cells ∧ (M' (-1) 2 - s0).toNat ≤ R.slots) → (∀ gx, zGo p l e R s m args below meth c Q K ph c0 s0 (gs ++ gx) (pc + 3) L st' M') → zGo p l e R s m args below meth c Q K ph c0 s0 gs pc L st M) (hdg : decode cc pc = .ok (ins, len)) (hck : zokI oc nm ret pc op nx tg r ins len = true) (hst : zstep ph (zEm ph d) op nx tg r L st M = some (.inl q)) (hk : ∀ gx, zGo p l e R s m args below meth c Q K ph c0 s0 (gs ++ gx) q.1 q.2.1 q.2.2.1 q.2.2.2) : zGo p l e R s m args below meth c Q K ph c0 s0 gs pc L st M := by
  cases ins with
  | iconst n => exact zd_iconst hC hH hdg hck hst hk
  | bipush n => exact zd_bipush hC hH hdg hck hst hk
  | sipush n => exact zd_sipush hC hH hdg hck hst hk
  | lconst n => exact zd_lconst hC hH hdg hck hst hk
  | ldc i => exact zd_ldc hC hH hdg hck hst hk
  | ldc_w i => exact zd_ldc_w hC hH hdg hck hst hk
  | ldc2_w i => exact zd_ldc2_w hC hH hdg hck hst hk
  | iload k => exact zd_iload hC hH hdg hck hst hk
  | iload_n k => exact zd_iload_n hC hH hdg hck hst hk
  | lload k => exact zd_lload hC hH hdg hck hst hk
  | lload_n k => exact zd_lload_n hC hH hdg hck hst hk
  | aload k => exact zd_aload hC hH hdg hck hst hk
  | aload_n k => exact zd_aload_n hC hH hdg hck hst hk
  | istore k => exact zd_istore hC hH hdg hck hst hk
  | istore_n k => exact zd_istore_n hC hH hdg hck hst hk
  | astore k => exact zd_astore hC hH hdg hck hst hk
  | astore_n k => exact zd_astore_n hC hH hdg hck hst hk
  | lstore k => exact zd_lstore hC hH hdg hck hst hk
  | iinc k n => exact zd_iinc hC hH hdg hck hst hk
  | iadd => exact zd_iadd hC hH hdg hck hst hk
  | isub => exact zd_isub hC hH hdg hck hst hk
  | imul => exact zd_imul hC hH hdg hck hst hk
  | idiv => exact zd_idiv hC hH hdg hck hst hk
  | irem => exact zd_irem hC hH hdg hck hst hk
  | iand => exact zd_iand hC hH hdg hck hst hk
  | ior => exact zd_ior hC hH hdg hck hst hk
  | ixor => exact zd_ixor hC hH hdg hck hst hk
  | ishl => exact zd_ishl hC hH hdg hck hst hk
  | ishr => exact zd_ishr hC hH hdg hck hst hk
  | iushr => exact zd_iushr hC hH hdg hck hst hk
  | ineg => exact zd_ineg hC hH hdg hck hst hk
  | ladd => exact zd_ladd hC hH hdg hck hst hk
  | lsub => exact zd_lsub hC hH hdg hck hst hk
  | lmul => exact zd_lmul hC hH hdg hck hst hk
  | ldiv => exact zd_ldiv hC hH hdg hck hst hk
  | lrem => exact zd_lrem hC hH hdg hck hst hk
  | land => exact zd_land hC hH hdg hck hst hk
  | lor => exact zd_lor hC hH hdg hck hst hk
  | lcmp => exact zd_lcmp hC hH hdg hck hst hk
  | i2l => exact zd_i2l hC hH hdg hck hst hk
  | i2c => exact zd_i2c hC hH hdg hck hst hk
  | i2b => exact zd_i2b hC hH hdg hck hst hk
  | l2i => exact zd_l2i hC hH hdg hck hst hk
  | lshl => exact zd_lshl hC hH hdg hck hst hk
  | lushr => exact zd_lushr hC hH hdg hck hst hk
  | dup => exact zd_dup hC hH hdg hck hst hk
  | pop => exact zd_pop hC hH hdg hck hst hk
  | dup2 => exact zd_dup2 hC hH hdg hck hst hk
  | dup_x1 => exact zd_dup_x1 hC hH hdg hck hst hk
  | ifCond cnd off => cases cnd with
    | eq => exact zd_if_eq hC hH hdg hck hst hk
    | ne => exact zd_if_ne hC hH hdg hck hst hk
    | lt => exact zd_if_lt hC hH hdg hck hst hk
    | ge => exact zd_if_ge hC hH hdg hck hst hk
    | gt => exact zd_if_gt hC hH hdg hck hst hk
    | le => exact zd_if_le hC hH hdg hck hst hk
  | if_icmp cnd off => cases cnd with
    | eq => exact zd_icmp_eq hC hH hdg hck hst hk
    | ne => exact zd_icmp_ne hC hH hdg hck hst hk
    | lt => exact zd_icmp_lt hC hH hdg hck hst hk
    | ge => exact zd_icmp_ge hC hH hdg hck hst hk
    | gt => exact zd_icmp_gt hC hH hdg hck hst hk
    | le => exact zd_icmp_le hC hH hdg hck hst hk
  | if_acmp cnd off => cases cnd with
    | eq => exact zd_acmp_eq hC hH hdg hck hst hk
    | ne => exact zd_acmp_ne hC hH hdg hck hst hk
  | goto off => exact zd_goto hC hH hdg hck hst hk
  | ifnonnull off => exact zd_ifnonnull hC hH hdg hck hst hk
  | tableswitch dflt lo hi offs => exact zd_tsw hC hH hdg hck hst hk
  | lookupswitch dflt ps => exact zd_lsw hC hH hdg hck hst hk
  | getfield i => exact zd_getfield hC hH hdg hck hst hk
  | putfield i => exact zd_putfield hC hH hdg hck hst hk
  | getstatic i => exact zd_getstatic hC hH hdg hck hst hk
  | arraylength => exact zd_alen hC hH hdg hck hst hk
  | iaload => exact zd_iaload hC hH hdg hck hst hk
  | laload => exact zd_laload hC hH hdg hck hst hk
  | baload => exact zd_baload hC hH hdg hck hst hk
  | aaload => exact zd_aaload hC hH hdg hck hst hk
  | iastore => exact zd_iastore hC hH hdg hck hst hk
  | lastore => exact zd_lastore hC hH hdg hck hst hk
  | bastore => exact zd_bastore hC hH hdg hck hst hk
  | aastore => exact zd_aastore hC hH hdg hck hst hk
  | newarray ty => cases ty with
    | int => exact zd_na_int hC hH hdg hck hst hk
    | long => exact zd_na_long hC hH hdg hck hst hk
    | boolean => exact zd_na_boolean hC hH hdg hck hst hk
    | byte => exact zd_na_byte hC hH hdg hck hst hk
    | _ => exact absurd hck (by simp [zokI])
  | anewarray i => exact zd_anewarray hC hH hdg hck hst hk
  | new i => exact zd_new hC hH hdg hck hst hk
  | invokestatic i => exact zd_invokestatic hC hH hx hdg hck hst hk
  | invokevirtual i => exact zd_invokevirtual hC hH hx hdg hck hst hk
  | invokespecial i => exact zd_invokespecial hC hH hx hdg hck hst hk
  | ireturn => exact absurd hst (zret_not (ret := ret) (by simp only [zokI, Bool.and_eq_true, beq_iff_eq] at hck; omega))
  | lreturn => exact absurd hst (zret_not (ret := ret) (by simp only [zokI, Bool.and_eq_true, beq_iff_eq] at hck; omega))
  | areturn => exact absurd hst (zret_not (ret := ret) (by simp only [zokI, Bool.and_eq_true, beq_iff_eq] at hck; omega))
  | return_ => exact absurd hst (zret_not (ret := ret) (by simp only [zokI, Bool.and_eq_true, beq_iff_eq] at hck; omega))
  | _ => exact absurd hck (by simp [zokI])
