/-! one step of the small machine is one of the real one -/
theorem zmap_inl {α : Type} {o : Option α} {f : α → zC} {q : zC} (h : o.map (fun a => (Sum.inl (f a) : zC ⊕ (zV × zM))) = some (.inl q)) : ∃ a, o = some a ∧ f a = q := by
  obtain ⟨a, h1, h2⟩ := Option.map_eq_some_iff.mp h
  exact ⟨a, h1, by cases h2; rfl⟩
/-- what a caller at depth d + 1 has -/
def zHy (l : Launch) (R : Room) (K : zK) (ph : Bool) (c0 s0 : Int) (d : Nat) (M M' : zM) : Prop := zOK l K ph d ∧ (d + 1 ≤ R.frames ∧ 60 * (d + 1) ≤ R.locals) ∧ (c0 ≤ M (-1) 1 ∧ s0 ≤ M (-1) 2) ∧ ((M' (-1) 1 - c0).toNat ≤ R.cells ∧ (M' (-1) 2 - s0).toNat ≤ R.slots)
theorem zd_iconst {p : Program} {l : Launch} {e : Env} {R : Room} {s : State} {m : MethodId} {args : Array Value} {below : List Frame} {meth : Method} {c : Code} {Q : State → Prop} {K : zK} {ph : Bool} {c0 s0 : Int} {gs : zG} {nm : String} {cc : ByteArray} {pc : Nat} {L st : List zV} {M : zM} {d oc op nx tg len : Nat} {ret : Option FieldType} {r : List Int} {q : zC} {n : Int} (hC : zCtx K (zow oc) nm cc p s m args meth c) (hH : zHy l R K ph c0 s0 d M q.2.2.2) (hdg : decode cc pc = .ok (.iconst n, len)) (hck : zokI oc nm ret pc op nx tg r (.iconst n) len = true) (hst : zstep ph (zEm ph d) op nx tg r L st M = some (.inl q)) (hk : ∀ gx, zGo p l e R s m args below meth c Q K ph c0 s0 (gs ++ gx) q.1 q.2.1 q.2.2.1 q.2.2.2) : zGo p l e R s m args below meth c Q K ph c0 s0 gs pc L st M := by
  simp only [zokI, Bool.and_eq_true, Bool.or_eq_true, beq_iff_eq, decide_eq_true_eq] at hck
  obtain ⟨⟨⟨⟨rfl, rfl⟩, rfl⟩, rfl⟩, hn⟩ := hck
  have hk0 := hk []
  rw [List.append_nil] at hk0
  cases hst
  exact zs_iconst hC hdg hn hk0
theorem zd_bipush {p : Program} {l : Launch} {e : Env} {R : Room} {s : State} {m : MethodId} {args : Array Value} {below : List Frame} {meth : Method} {c : Code} {Q : State → Prop} {K : zK} {ph : Bool} {c0 s0 : Int} {gs : zG} {nm : String} {cc : ByteArray} {pc : Nat} {L st : List zV} {M : zM} {d oc op nx tg len : Nat} {ret : Option FieldType} {r : List Int} {q : zC} {n : Int} (hC : zCtx K (zow oc) nm cc p s m args meth c) (hH : zHy l R K ph c0 s0 d M q.2.2.2) (hdg : decode cc pc = .ok (.bipush n, len)) (hck : zokI oc nm ret pc op nx tg r (.bipush n) len = true) (hst : zstep ph (zEm ph d) op nx tg r L st M = some (.inl q)) (hk : ∀ gx, zGo p l e R s m args below meth c Q K ph c0 s0 (gs ++ gx) q.1 q.2.1 q.2.2.1 q.2.2.2) : zGo p l e R s m args below meth c Q K ph c0 s0 gs pc L st M := by
  simp only [zokI, Bool.and_eq_true, Bool.or_eq_true, beq_iff_eq, decide_eq_true_eq] at hck
  obtain ⟨⟨⟨⟨rfl, rfl⟩, rfl⟩, rfl⟩, hn⟩ := hck
  have hk0 := hk []
  rw [List.append_nil] at hk0
  cases hst
  exact zs_bipush hC hdg hn hk0
theorem zd_sipush {p : Program} {l : Launch} {e : Env} {R : Room} {s : State} {m : MethodId} {args : Array Value} {below : List Frame} {meth : Method} {c : Code} {Q : State → Prop} {K : zK} {ph : Bool} {c0 s0 : Int} {gs : zG} {nm : String} {cc : ByteArray} {pc : Nat} {L st : List zV} {M : zM} {d oc op nx tg len : Nat} {ret : Option FieldType} {r : List Int} {q : zC} {n : Int} (hC : zCtx K (zow oc) nm cc p s m args meth c) (hH : zHy l R K ph c0 s0 d M q.2.2.2) (hdg : decode cc pc = .ok (.sipush n, len)) (hck : zokI oc nm ret pc op nx tg r (.sipush n) len = true) (hst : zstep ph (zEm ph d) op nx tg r L st M = some (.inl q)) (hk : ∀ gx, zGo p l e R s m args below meth c Q K ph c0 s0 (gs ++ gx) q.1 q.2.1 q.2.2.1 q.2.2.2) : zGo p l e R s m args below meth c Q K ph c0 s0 gs pc L st M := by
  simp only [zokI, Bool.and_eq_true, Bool.or_eq_true, beq_iff_eq, decide_eq_true_eq] at hck
  obtain ⟨⟨⟨⟨rfl, rfl⟩, rfl⟩, rfl⟩, hn⟩ := hck
  have hk0 := hk []
  rw [List.append_nil] at hk0
  cases hst
  exact zs_sipush hC hdg hn hk0
theorem zd_lconst {p : Program} {l : Launch} {e : Env} {R : Room} {s : State} {m : MethodId} {args : Array Value} {below : List Frame} {meth : Method} {c : Code} {Q : State → Prop} {K : zK} {ph : Bool} {c0 s0 : Int} {gs : zG} {nm : String} {cc : ByteArray} {pc : Nat} {L st : List zV} {M : zM} {d oc op nx tg len : Nat} {ret : Option FieldType} {r : List Int} {q : zC} {n : Fin 2} (hC : zCtx K (zow oc) nm cc p s m args meth c) (hH : zHy l R K ph c0 s0 d M q.2.2.2) (hdg : decode cc pc = .ok (.lconst n, len)) (hck : zokI oc nm ret pc op nx tg r (.lconst n) len = true) (hst : zstep ph (zEm ph d) op nx tg r L st M = some (.inl q)) (hk : ∀ gx, zGo p l e R s m args below meth c Q K ph c0 s0 (gs ++ gx) q.1 q.2.1 q.2.2.1 q.2.2.2) : zGo p l e R s m args below meth c Q K ph c0 s0 gs pc L st M := by
  simp only [zokI, Bool.and_eq_true, Bool.or_eq_true, beq_iff_eq, decide_eq_true_eq] at hck
  obtain ⟨⟨⟨rfl, rfl⟩, rfl⟩, rfl⟩ := hck
  have hk0 := hk []
  rw [List.append_nil] at hk0
  cases hst
  exact zs_lconst hC hdg hk0
theorem zkw_ok {oc i kd : Nat} {r : List Int} (h : zkw oc i kd r = true) : ∃ (a : Int) (k : Nat), zlook oc i = some (kd, a, k) ∧ r = [if kd = 3 then (Int32.ofInt a).toInt else (Int64.ofInt a).toInt] := by
  unfold zkw at h
  split at h
  · rename_i k a b hz
    simp only [Bool.and_eq_true, beq_iff_eq, decide_eq_true_eq] at h
    obtain ⟨rfl, h⟩ := h
    exact ⟨a, b, hz, h⟩
  · cases h
theorem zks_ok {oc i : Nat} {r : List Int} (h : zks oc i r = true) : ∃ (k : Nat) (q : String × Nat × String), zstn[k]? = some q ∧ q.1 = zow oc ∧ q.2.1 = i ∧ r = [(k : Int), ((zstr.getD k []).length : Int)] := by
  unfold zks at h
  split at h
  · rename_i k n
    simp only [Bool.and_eq_true, decide_eq_true_eq] at h
    obtain ⟨⟨h0, h1⟩, h2⟩ := h
    obtain ⟨kk, rfl⟩ := Int.eq_ofNat_of_zero_le h0
    split at h2
    · rename_i q hq
      simp only [Bool.and_eq_true, decide_eq_true_eq] at h2
      exact ⟨kk, q, hq, h2.1, h2.2, by rw [h1]; rfl⟩
    · cases h2
  · cases h
theorem zd_ldc {p : Program} {l : Launch} {e : Env} {R : Room} {s : State} {m : MethodId} {args : Array Value} {below : List Frame} {meth : Method} {c : Code} {Q : State → Prop} {K : zK} {ph : Bool} {c0 s0 : Int} {gs : zG} {nm : String} {cc : ByteArray} {pc : Nat} {L st : List zV} {M : zM} {d oc op nx tg len : Nat} {ret : Option FieldType} {r : List Int} {q : zC} {i : Nat} (hC : zCtx K (zow oc) nm cc p s m args meth c) (hH : zHy l R K ph c0 s0 d M q.2.2.2) (hdg : decode cc pc = .ok (.ldc i, len)) (hck : zokI oc nm ret pc op nx tg r (.ldc i) len = true) (hst : zstep ph (zEm ph d) op nx tg r L st M = some (.inl q)) (hk : ∀ gx, zGo p l e R s m args below meth c Q K ph c0 s0 (gs ++ gx) q.1 q.2.1 q.2.2.1 q.2.2.2) : zGo p l e R s m args below meth c Q K ph c0 s0 gs pc L st M := by
  simp only [zokI, Bool.and_eq_true, Bool.or_eq_true, beq_iff_eq, decide_eq_true_eq] at hck
  obtain ⟨⟨rfl, rfl⟩, hck⟩ := hck
  have hk0 := hk []
  rw [List.append_nil] at hk0
  rcases hck with ⟨rfl, hck⟩ | ⟨rfl, hck⟩
  · obtain ⟨a, k, hz, rfl⟩ := zkw_ok hck
    obtain ⟨k', hw⟩ := zlook_ok hz
    cases hst
    exact zs_ldc hC hdg hw hk0
  · obtain ⟨k, q', hq, h1, h2, rfl⟩ := zks_ok hck
    cases hst
    exact zs_ldcs hC hdg hq h1 h2 hk0
theorem zd_ldc_w {p : Program} {l : Launch} {e : Env} {R : Room} {s : State} {m : MethodId} {args : Array Value} {below : List Frame} {meth : Method} {c : Code} {Q : State → Prop} {K : zK} {ph : Bool} {c0 s0 : Int} {gs : zG} {nm : String} {cc : ByteArray} {pc : Nat} {L st : List zV} {M : zM} {d oc op nx tg len : Nat} {ret : Option FieldType} {r : List Int} {q : zC} {i : Nat} (hC : zCtx K (zow oc) nm cc p s m args meth c) (hH : zHy l R K ph c0 s0 d M q.2.2.2) (hdg : decode cc pc = .ok (.ldc_w i, len)) (hck : zokI oc nm ret pc op nx tg r (.ldc_w i) len = true) (hst : zstep ph (zEm ph d) op nx tg r L st M = some (.inl q)) (hk : ∀ gx, zGo p l e R s m args below meth c Q K ph c0 s0 (gs ++ gx) q.1 q.2.1 q.2.2.1 q.2.2.2) : zGo p l e R s m args below meth c Q K ph c0 s0 gs pc L st M := by
  simp only [zokI, Bool.and_eq_true, Bool.or_eq_true, beq_iff_eq, decide_eq_true_eq] at hck
  obtain ⟨⟨rfl, rfl⟩, hck⟩ := hck
  have hk0 := hk []
  rw [List.append_nil] at hk0
  rcases hck with ⟨rfl, hck⟩ | ⟨rfl, hck⟩
  · obtain ⟨a, k, hz, rfl⟩ := zkw_ok hck
    obtain ⟨k', hw⟩ := zlook_ok hz
    cases hst
    exact zs_ldcw hC hdg hw hk0
  · obtain ⟨k, q', hq, h1, h2, rfl⟩ := zks_ok hck
    cases hst
    exact zs_ldcsw hC hdg hq h1 h2 hk0
theorem zd_ldc2_w {p : Program} {l : Launch} {e : Env} {R : Room} {s : State} {m : MethodId} {args : Array Value} {below : List Frame} {meth : Method} {c : Code} {Q : State → Prop} {K : zK} {ph : Bool} {c0 s0 : Int} {gs : zG} {nm : String} {cc : ByteArray} {pc : Nat} {L st : List zV} {M : zM} {d oc op nx tg len : Nat} {ret : Option FieldType} {r : List Int} {q : zC} {i : Nat} (hC : zCtx K (zow oc) nm cc p s m args meth c) (hH : zHy l R K ph c0 s0 d M q.2.2.2) (hdg : decode cc pc = .ok (.ldc2_w i, len)) (hck : zokI oc nm ret pc op nx tg r (.ldc2_w i) len = true) (hst : zstep ph (zEm ph d) op nx tg r L st M = some (.inl q)) (hk : ∀ gx, zGo p l e R s m args below meth c Q K ph c0 s0 (gs ++ gx) q.1 q.2.1 q.2.2.1 q.2.2.2) : zGo p l e R s m args below meth c Q K ph c0 s0 gs pc L st M := by
  simp only [zokI, Bool.and_eq_true, Bool.or_eq_true, beq_iff_eq, decide_eq_true_eq] at hck
  obtain ⟨⟨⟨rfl, rfl⟩, rfl⟩, hck⟩ := hck
  have hk0 := hk []
  rw [List.append_nil] at hk0
  obtain ⟨a, k, hz, rfl⟩ := zkw_ok hck
  obtain ⟨k', hw⟩ := zlook_ok hz
  cases hst
  exact zs_ldc2 hC hdg hw hk0
theorem zd_iload {p : Program} {l : Launch} {e : Env} {R : Room} {s : State} {m : MethodId} {args : Array Value} {below : List Frame} {meth : Method} {c : Code} {Q : State → Prop} {K : zK} {ph : Bool} {c0 s0 : Int} {gs : zG} {nm : String} {cc : ByteArray} {pc : Nat} {L st : List zV} {M : zM} {d oc op nx tg len : Nat} {ret : Option FieldType} {r : List Int} {q : zC} {k : Nat} (hC : zCtx K (zow oc) nm cc p s m args meth c) (hH : zHy l R K ph c0 s0 d M q.2.2.2) (hdg : decode cc pc = .ok (.iload k, len)) (hck : zokI oc nm ret pc op nx tg r (.iload k) len = true) (hst : zstep ph (zEm ph d) op nx tg r L st M = some (.inl q)) (hk : ∀ gx, zGo p l e R s m args below meth c Q K ph c0 s0 (gs ++ gx) q.1 q.2.1 q.2.2.1 q.2.2.2) : zGo p l e R s m args below meth c Q K ph c0 s0 gs pc L st M := by
  simp only [zokI, Bool.and_eq_true, Bool.or_eq_true, beq_iff_eq, decide_eq_true_eq] at hck
  obtain ⟨⟨⟨rfl, rfl⟩, rfl⟩, rfl⟩ := hck
  obtain ⟨⟨L1, st1⟩, hw, rfl⟩ := zmap_inl (o := zF0_il k L st) (f := fun w => (_, w.1, w.2, M)) hst
  have hk0 := hk []
  rw [List.append_nil] at hk0
  exact zs_iload hC hdg hw hk0
theorem zd_iload_n {p : Program} {l : Launch} {e : Env} {R : Room} {s : State} {m : MethodId} {args : Array Value} {below : List Frame} {meth : Method} {c : Code} {Q : State → Prop} {K : zK} {ph : Bool} {c0 s0 : Int} {gs : zG} {nm : String} {cc : ByteArray} {pc : Nat} {L st : List zV} {M : zM} {d oc op nx tg len : Nat} {ret : Option FieldType} {r : List Int} {q : zC} {k : Fin 4} (hC : zCtx K (zow oc) nm cc p s m args meth c) (hH : zHy l R K ph c0 s0 d M q.2.2.2) (hdg : decode cc pc = .ok (.iload_n k, len)) (hck : zokI oc nm ret pc op nx tg r (.iload_n k) len = true) (hst : zstep ph (zEm ph d) op nx tg r L st M = some (.inl q)) (hk : ∀ gx, zGo p l e R s m args below meth c Q K ph c0 s0 (gs ++ gx) q.1 q.2.1 q.2.2.1 q.2.2.2) : zGo p l e R s m args below meth c Q K ph c0 s0 gs pc L st M := by
  simp only [zokI, Bool.and_eq_true, Bool.or_eq_true, beq_iff_eq, decide_eq_true_eq] at hck
  obtain ⟨⟨⟨rfl, rfl⟩, rfl⟩, rfl⟩ := hck
  obtain ⟨⟨L1, st1⟩, hw, rfl⟩ := zmap_inl (o := zF0_il (k : Nat) L st) (f := fun w => (_, w.1, w.2, M)) hst
  have hk0 := hk []
  rw [List.append_nil] at hk0
  exact zs_iload_n hC hdg hw hk0
theorem zd_lload {p : Program} {l : Launch} {e : Env} {R : Room} {s : State} {m : MethodId} {args : Array Value} {below : List Frame} {meth : Method} {c : Code} {Q : State → Prop} {K : zK} {ph : Bool} {c0 s0 : Int} {gs : zG} {nm : String} {cc : ByteArray} {pc : Nat} {L st : List zV} {M : zM} {d oc op nx tg len : Nat} {ret : Option FieldType} {r : List Int} {q : zC} {k : Nat} (hC : zCtx K (zow oc) nm cc p s m args meth c) (hH : zHy l R K ph c0 s0 d M q.2.2.2) (hdg : decode cc pc = .ok (.lload k, len)) (hck : zokI oc nm ret pc op nx tg r (.lload k) len = true) (hst : zstep ph (zEm ph d) op nx tg r L st M = some (.inl q)) (hk : ∀ gx, zGo p l e R s m args below meth c Q K ph c0 s0 (gs ++ gx) q.1 q.2.1 q.2.2.1 q.2.2.2) : zGo p l e R s m args below meth c Q K ph c0 s0 gs pc L st M := by
  simp only [zokI, Bool.and_eq_true, Bool.or_eq_true, beq_iff_eq, decide_eq_true_eq] at hck
  obtain ⟨⟨⟨rfl, rfl⟩, rfl⟩, rfl⟩ := hck
  obtain ⟨⟨L1, st1⟩, hw, rfl⟩ := zmap_inl (o := zF0_ll k L st) (f := fun w => (_, w.1, w.2, M)) hst
  have hk0 := hk []
  rw [List.append_nil] at hk0
  exact zs_lload hC hdg hw hk0
theorem zd_lload_n {p : Program} {l : Launch} {e : Env} {R : Room} {s : State} {m : MethodId} {args : Array Value} {below : List Frame} {meth : Method} {c : Code} {Q : State → Prop} {K : zK} {ph : Bool} {c0 s0 : Int} {gs : zG} {nm : String} {cc : ByteArray} {pc : Nat} {L st : List zV} {M : zM} {d oc op nx tg len : Nat} {ret : Option FieldType} {r : List Int} {q : zC} {k : Fin 4} (hC : zCtx K (zow oc) nm cc p s m args meth c) (hH : zHy l R K ph c0 s0 d M q.2.2.2) (hdg : decode cc pc = .ok (.lload_n k, len)) (hck : zokI oc nm ret pc op nx tg r (.lload_n k) len = true) (hst : zstep ph (zEm ph d) op nx tg r L st M = some (.inl q)) (hk : ∀ gx, zGo p l e R s m args below meth c Q K ph c0 s0 (gs ++ gx) q.1 q.2.1 q.2.2.1 q.2.2.2) : zGo p l e R s m args below meth c Q K ph c0 s0 gs pc L st M := by
  simp only [zokI, Bool.and_eq_true, Bool.or_eq_true, beq_iff_eq, decide_eq_true_eq] at hck
  obtain ⟨⟨⟨rfl, rfl⟩, rfl⟩, rfl⟩ := hck
  obtain ⟨⟨L1, st1⟩, hw, rfl⟩ := zmap_inl (o := zF0_ll (k : Nat) L st) (f := fun w => (_, w.1, w.2, M)) hst
  have hk0 := hk []
  rw [List.append_nil] at hk0
  exact zs_lload_n hC hdg hw hk0
theorem zd_aload {p : Program} {l : Launch} {e : Env} {R : Room} {s : State} {m : MethodId} {args : Array Value} {below : List Frame} {meth : Method} {c : Code} {Q : State → Prop} {K : zK} {ph : Bool} {c0 s0 : Int} {gs : zG} {nm : String} {cc : ByteArray} {pc : Nat} {L st : List zV} {M : zM} {d oc op nx tg len : Nat} {ret : Option FieldType} {r : List Int} {q : zC} {k : Nat} (hC : zCtx K (zow oc) nm cc p s m args meth c) (hH : zHy l R K ph c0 s0 d M q.2.2.2) (hdg : decode cc pc = .ok (.aload k, len)) (hck : zokI oc nm ret pc op nx tg r (.aload k) len = true) (hst : zstep ph (zEm ph d) op nx tg r L st M = some (.inl q)) (hk : ∀ gx, zGo p l e R s m args below meth c Q K ph c0 s0 (gs ++ gx) q.1 q.2.1 q.2.2.1 q.2.2.2) : zGo p l e R s m args below meth c Q K ph c0 s0 gs pc L st M := by
  simp only [zokI, Bool.and_eq_true, Bool.or_eq_true, beq_iff_eq, decide_eq_true_eq] at hck
  obtain ⟨⟨⟨rfl, rfl⟩, rfl⟩, rfl⟩ := hck
  obtain ⟨⟨L1, st1⟩, hw, rfl⟩ := zmap_inl (o := zF0_al k L st) (f := fun w => (_, w.1, w.2, M)) hst
  have hk0 := hk []
  rw [List.append_nil] at hk0
  exact zs_aload hC hdg hw hk0
theorem zd_aload_n {p : Program} {l : Launch} {e : Env} {R : Room} {s : State} {m : MethodId} {args : Array Value} {below : List Frame} {meth : Method} {c : Code} {Q : State → Prop} {K : zK} {ph : Bool} {c0 s0 : Int} {gs : zG} {nm : String} {cc : ByteArray} {pc : Nat} {L st : List zV} {M : zM} {d oc op nx tg len : Nat} {ret : Option FieldType} {r : List Int} {q : zC} {k : Fin 4} (hC : zCtx K (zow oc) nm cc p s m args meth c) (hH : zHy l R K ph c0 s0 d M q.2.2.2) (hdg : decode cc pc = .ok (.aload_n k, len)) (hck : zokI oc nm ret pc op nx tg r (.aload_n k) len = true) (hst : zstep ph (zEm ph d) op nx tg r L st M = some (.inl q)) (hk : ∀ gx, zGo p l e R s m args below meth c Q K ph c0 s0 (gs ++ gx) q.1 q.2.1 q.2.2.1 q.2.2.2) : zGo p l e R s m args below meth c Q K ph c0 s0 gs pc L st M := by
  simp only [zokI, Bool.and_eq_true, Bool.or_eq_true, beq_iff_eq, decide_eq_true_eq] at hck
  obtain ⟨⟨⟨rfl, rfl⟩, rfl⟩, rfl⟩ := hck
  obtain ⟨⟨L1, st1⟩, hw, rfl⟩ := zmap_inl (o := zF0_al (k : Nat) L st) (f := fun w => (_, w.1, w.2, M)) hst
  have hk0 := hk []
  rw [List.append_nil] at hk0
  exact zs_aload_n hC hdg hw hk0
theorem zd_istore {p : Program} {l : Launch} {e : Env} {R : Room} {s : State} {m : MethodId} {args : Array Value} {below : List Frame} {meth : Method} {c : Code} {Q : State → Prop} {K : zK} {ph : Bool} {c0 s0 : Int} {gs : zG} {nm : String} {cc : ByteArray} {pc : Nat} {L st : List zV} {M : zM} {d oc op nx tg len : Nat} {ret : Option FieldType} {r : List Int} {q : zC} {k : Nat} (hC : zCtx K (zow oc) nm cc p s m args meth c) (hH : zHy l R K ph c0 s0 d M q.2.2.2) (hdg : decode cc pc = .ok (.istore k, len)) (hck : zokI oc nm ret pc op nx tg r (.istore k) len = true) (hst : zstep ph (zEm ph d) op nx tg r L st M = some (.inl q)) (hk : ∀ gx, zGo p l e R s m args below meth c Q K ph c0 s0 (gs ++ gx) q.1 q.2.1 q.2.2.1 q.2.2.2) : zGo p l e R s m args below meth c Q K ph c0 s0 gs pc L st M := by
  simp only [zokI, Bool.and_eq_true, Bool.or_eq_true, beq_iff_eq, decide_eq_true_eq] at hck
  obtain ⟨⟨⟨rfl, rfl⟩, rfl⟩, rfl⟩ := hck
  obtain ⟨⟨L1, st1⟩, hw, rfl⟩ := zmap_inl (o := zF0_is k L st) (f := fun w => (_, w.1, w.2, M)) hst
  have hk0 := hk []
  rw [List.append_nil] at hk0
  exact zs_istore hC hdg hw hk0
theorem zd_istore_n {p : Program} {l : Launch} {e : Env} {R : Room} {s : State} {m : MethodId} {args : Array Value} {below : List Frame} {meth : Method} {c : Code} {Q : State → Prop} {K : zK} {ph : Bool} {c0 s0 : Int} {gs : zG} {nm : String} {cc : ByteArray} {pc : Nat} {L st : List zV} {M : zM} {d oc op nx tg len : Nat} {ret : Option FieldType} {r : List Int} {q : zC} {k : Fin 4} (hC : zCtx K (zow oc) nm cc p s m args meth c) (hH : zHy l R K ph c0 s0 d M q.2.2.2) (hdg : decode cc pc = .ok (.istore_n k, len)) (hck : zokI oc nm ret pc op nx tg r (.istore_n k) len = true) (hst : zstep ph (zEm ph d) op nx tg r L st M = some (.inl q)) (hk : ∀ gx, zGo p l e R s m args below meth c Q K ph c0 s0 (gs ++ gx) q.1 q.2.1 q.2.2.1 q.2.2.2) : zGo p l e R s m args below meth c Q K ph c0 s0 gs pc L st M := by
  simp only [zokI, Bool.and_eq_true, Bool.or_eq_true, beq_iff_eq, decide_eq_true_eq] at hck
  obtain ⟨⟨⟨rfl, rfl⟩, rfl⟩, rfl⟩ := hck
  obtain ⟨⟨L1, st1⟩, hw, rfl⟩ := zmap_inl (o := zF0_is (k : Nat) L st) (f := fun w => (_, w.1, w.2, M)) hst
  have hk0 := hk []
  rw [List.append_nil] at hk0
  exact zs_istore_n hC hdg hw hk0
theorem zd_astore {p : Program} {l : Launch} {e : Env} {R : Room} {s : State} {m : MethodId} {args : Array Value} {below : List Frame} {meth : Method} {c : Code} {Q : State → Prop} {K : zK} {ph : Bool} {c0 s0 : Int} {gs : zG} {nm : String} {cc : ByteArray} {pc : Nat} {L st : List zV} {M : zM} {d oc op nx tg len : Nat} {ret : Option FieldType} {r : List Int} {q : zC} {k : Nat} (hC : zCtx K (zow oc) nm cc p s m args meth c) (hH : zHy l R K ph c0 s0 d M q.2.2.2) (hdg : decode cc pc = .ok (.astore k, len)) (hck : zokI oc nm ret pc op nx tg r (.astore k) len = true) (hst : zstep ph (zEm ph d) op nx tg r L st M = some (.inl q)) (hk : ∀ gx, zGo p l e R s m args below meth c Q K ph c0 s0 (gs ++ gx) q.1 q.2.1 q.2.2.1 q.2.2.2) : zGo p l e R s m args below meth c Q K ph c0 s0 gs pc L st M := by
  simp only [zokI, Bool.and_eq_true, Bool.or_eq_true, beq_iff_eq, decide_eq_true_eq] at hck
  obtain ⟨⟨⟨rfl, rfl⟩, rfl⟩, rfl⟩ := hck
  obtain ⟨⟨L1, st1⟩, hw, rfl⟩ := zmap_inl (o := zF0_as k L st) (f := fun w => (_, w.1, w.2, M)) hst
  have hk0 := hk []
  rw [List.append_nil] at hk0
  exact zs_astore hC hdg hw hk0
theorem zd_astore_n {p : Program} {l : Launch} {e : Env} {R : Room} {s : State} {m : MethodId} {args : Array Value} {below : List Frame} {meth : Method} {c : Code} {Q : State → Prop} {K : zK} {ph : Bool} {c0 s0 : Int} {gs : zG} {nm : String} {cc : ByteArray} {pc : Nat} {L st : List zV} {M : zM} {d oc op nx tg len : Nat} {ret : Option FieldType} {r : List Int} {q : zC} {k : Fin 4} (hC : zCtx K (zow oc) nm cc p s m args meth c) (hH : zHy l R K ph c0 s0 d M q.2.2.2) (hdg : decode cc pc = .ok (.astore_n k, len)) (hck : zokI oc nm ret pc op nx tg r (.astore_n k) len = true) (hst : zstep ph (zEm ph d) op nx tg r L st M = some (.inl q)) (hk : ∀ gx, zGo p l e R s m args below meth c Q K ph c0 s0 (gs ++ gx) q.1 q.2.1 q.2.2.1 q.2.2.2) : zGo p l e R s m args below meth c Q K ph c0 s0 gs pc L st M := by
  simp only [zokI, Bool.and_eq_true, Bool.or_eq_true, beq_iff_eq, decide_eq_true_eq] at hck
  obtain ⟨⟨⟨rfl, rfl⟩, rfl⟩, rfl⟩ := hck
  obtain ⟨⟨L1, st1⟩, hw, rfl⟩ := zmap_inl (o := zF0_as (k : Nat) L st) (f := fun w => (_, w.1, w.2, M)) hst
  have hk0 := hk []
  rw [List.append_nil] at hk0
  exact zs_astore_n hC hdg hw hk0
theorem zd_lstore {p : Program} {l : Launch} {e : Env} {R : Room} {s : State} {m : MethodId} {args : Array Value} {below : List Frame} {meth : Method} {c : Code} {Q : State → Prop} {K : zK} {ph : Bool} {c0 s0 : Int} {gs : zG} {nm : String} {cc : ByteArray} {pc : Nat} {L st : List zV} {M : zM} {d oc op nx tg len : Nat} {ret : Option FieldType} {r : List Int} {q : zC} {k : Nat} (hC : zCtx K (zow oc) nm cc p s m args meth c) (hH : zHy l R K ph c0 s0 d M q.2.2.2) (hdg : decode cc pc = .ok (.lstore k, len)) (hck : zokI oc nm ret pc op nx tg r (.lstore k) len = true) (hst : zstep ph (zEm ph d) op nx tg r L st M = some (.inl q)) (hk : ∀ gx, zGo p l e R s m args below meth c Q K ph c0 s0 (gs ++ gx) q.1 q.2.1 q.2.2.1 q.2.2.2) : zGo p l e R s m args below meth c Q K ph c0 s0 gs pc L st M := by
  simp only [zokI, Bool.and_eq_true, Bool.or_eq_true, beq_iff_eq, decide_eq_true_eq] at hck
  obtain ⟨⟨⟨rfl, rfl⟩, rfl⟩, rfl⟩ := hck
  obtain ⟨⟨L1, st1⟩, hw, rfl⟩ := zmap_inl (o := zF0_ls k L st) (f := fun w => (_, w.1, w.2, M)) hst
  have hk0 := hk []
  rw [List.append_nil] at hk0
  exact zs_lstore hC hdg hw hk0
theorem zd_iinc {p : Program} {l : Launch} {e : Env} {R : Room} {s : State} {m : MethodId} {args : Array Value} {below : List Frame} {meth : Method} {c : Code} {Q : State → Prop} {K : zK} {ph : Bool} {c0 s0 : Int} {gs : zG} {nm : String} {cc : ByteArray} {pc : Nat} {L st : List zV} {M : zM} {d oc op nx tg len : Nat} {ret : Option FieldType} {r : List Int} {q : zC} {k : Nat} {n : Int} (hC : zCtx K (zow oc) nm cc p s m args meth c) (hH : zHy l R K ph c0 s0 d M q.2.2.2) (hdg : decode cc pc = .ok (.iinc k n, len)) (hck : zokI oc nm ret pc op nx tg r (.iinc k n) len = true) (hst : zstep ph (zEm ph d) op nx tg r L st M = some (.inl q)) (hk : ∀ gx, zGo p l e R s m args below meth c Q K ph c0 s0 (gs ++ gx) q.1 q.2.1 q.2.2.1 q.2.2.2) : zGo p l e R s m args below meth c Q K ph c0 s0 gs pc L st M := by
  simp only [zokI, Bool.and_eq_true, Bool.or_eq_true, beq_iff_eq, decide_eq_true_eq] at hck
  obtain ⟨⟨⟨rfl, rfl⟩, rfl⟩, rfl⟩ := hck
  obtain ⟨⟨L1, st1⟩, hw, rfl⟩ := zmap_inl (o := zF0_inc k n L st) (f := fun w => (_, w.1, w.2, M)) hst
  have hk0 := hk []
  rw [List.append_nil] at hk0
  exact zs_iinc hC hdg hw hk0
theorem zd_iadd {p : Program} {l : Launch} {e : Env} {R : Room} {s : State} {m : MethodId} {args : Array Value} {below : List Frame} {meth : Method} {c : Code} {Q : State → Prop} {K : zK} {ph : Bool} {c0 s0 : Int} {gs : zG} {nm : String} {cc : ByteArray} {pc : Nat} {L st : List zV} {M : zM} {d oc op nx tg len : Nat} {ret : Option FieldType} {r : List Int} {q : zC} (hC : zCtx K (zow oc) nm cc p s m args meth c) (hH : zHy l R K ph c0 s0 d M q.2.2.2) (hdg : decode cc pc = .ok (.iadd, len)) (hck : zokI oc nm ret pc op nx tg r (.iadd) len = true) (hst : zstep ph (zEm ph d) op nx tg r L st M = some (.inl q)) (hk : ∀ gx, zGo p l e R s m args below meth c Q K ph c0 s0 (gs ++ gx) q.1 q.2.1 q.2.2.1 q.2.2.2) : zGo p l e R s m args below meth c Q K ph c0 s0 gs pc L st M := by
  simp only [zokI, Bool.and_eq_true, Bool.or_eq_true, beq_iff_eq, decide_eq_true_eq] at hck
  obtain ⟨⟨rfl, rfl⟩, rfl⟩ := hck
  obtain ⟨st1, hw, rfl⟩ := zmap_inl (o := zF1_2 10 st) (f := fun w => (_, L, w, M)) hst
  have hk0 := hk []
  rw [List.append_nil] at hk0
  exact zs_iadd hC hdg hw hk0
theorem zd_isub {p : Program} {l : Launch} {e : Env} {R : Room} {s : State} {m : MethodId} {args : Array Value} {below : List Frame} {meth : Method} {c : Code} {Q : State → Prop} {K : zK} {ph : Bool} {c0 s0 : Int} {gs : zG} {nm : String} {cc : ByteArray} {pc : Nat} {L st : List zV} {M : zM} {d oc op nx tg len : Nat} {ret : Option FieldType} {r : List Int} {q : zC} (hC : zCtx K (zow oc) nm cc p s m args meth c) (hH : zHy l R K ph c0 s0 d M q.2.2.2) (hdg : decode cc pc = .ok (.isub, len)) (hck : zokI oc nm ret pc op nx tg r (.isub) len = true) (hst : zstep ph (zEm ph d) op nx tg r L st M = some (.inl q)) (hk : ∀ gx, zGo p l e R s m args below meth c Q K ph c0 s0 (gs ++ gx) q.1 q.2.1 q.2.2.1 q.2.2.2) : zGo p l e R s m args below meth c Q K ph c0 s0 gs pc L st M := by
  simp only [zokI, Bool.and_eq_true, Bool.or_eq_true, beq_iff_eq, decide_eq_true_eq] at hck
  obtain ⟨⟨rfl, rfl⟩, rfl⟩ := hck
  obtain ⟨st1, hw, rfl⟩ := zmap_inl (o := zF1_2 11 st) (f := fun w => (_, L, w, M)) hst
  have hk0 := hk []
  rw [List.append_nil] at hk0
  exact zs_isub hC hdg hw hk0
theorem zd_imul {p : Program} {l : Launch} {e : Env} {R : Room} {s : State} {m : MethodId} {args : Array Value} {below : List Frame} {meth : Method} {c : Code} {Q : State → Prop} {K : zK} {ph : Bool} {c0 s0 : Int} {gs : zG} {nm : String} {cc : ByteArray} {pc : Nat} {L st : List zV} {M : zM} {d oc op nx tg len : Nat} {ret : Option FieldType} {r : List Int} {q : zC} (hC : zCtx K (zow oc) nm cc p s m args meth c) (hH : zHy l R K ph c0 s0 d M q.2.2.2) (hdg : decode cc pc = .ok (.imul, len)) (hck : zokI oc nm ret pc op nx tg r (.imul) len = true) (hst : zstep ph (zEm ph d) op nx tg r L st M = some (.inl q)) (hk : ∀ gx, zGo p l e R s m args below meth c Q K ph c0 s0 (gs ++ gx) q.1 q.2.1 q.2.2.1 q.2.2.2) : zGo p l e R s m args below meth c Q K ph c0 s0 gs pc L st M := by
  simp only [zokI, Bool.and_eq_true, Bool.or_eq_true, beq_iff_eq, decide_eq_true_eq] at hck
  obtain ⟨⟨rfl, rfl⟩, rfl⟩ := hck
  obtain ⟨st1, hw, rfl⟩ := zmap_inl (o := zF1_2 12 st) (f := fun w => (_, L, w, M)) hst
  have hk0 := hk []
  rw [List.append_nil] at hk0
  exact zs_imul hC hdg hw hk0
theorem zd_idiv {p : Program} {l : Launch} {e : Env} {R : Room} {s : State} {m : MethodId} {args : Array Value} {below : List Frame} {meth : Method} {c : Code} {Q : State → Prop} {K : zK} {ph : Bool} {c0 s0 : Int} {gs : zG} {nm : String} {cc : ByteArray} {pc : Nat} {L st : List zV} {M : zM} {d oc op nx tg len : Nat} {ret : Option FieldType} {r : List Int} {q : zC} (hC : zCtx K (zow oc) nm cc p s m args meth c) (hH : zHy l R K ph c0 s0 d M q.2.2.2) (hdg : decode cc pc = .ok (.idiv, len)) (hck : zokI oc nm ret pc op nx tg r (.idiv) len = true) (hst : zstep ph (zEm ph d) op nx tg r L st M = some (.inl q)) (hk : ∀ gx, zGo p l e R s m args below meth c Q K ph c0 s0 (gs ++ gx) q.1 q.2.1 q.2.2.1 q.2.2.2) : zGo p l e R s m args below meth c Q K ph c0 s0 gs pc L st M := by
  simp only [zokI, Bool.and_eq_true, Bool.or_eq_true, beq_iff_eq, decide_eq_true_eq] at hck
  obtain ⟨⟨rfl, rfl⟩, rfl⟩ := hck
  obtain ⟨st1, hw, rfl⟩ := zmap_inl (o := zF1_2 13 st) (f := fun w => (_, L, w, M)) hst
  have hk0 := hk []
  rw [List.append_nil] at hk0
  exact zs_idiv hC hdg hw hk0
theorem zd_irem {p : Program} {l : Launch} {e : Env} {R : Room} {s : State} {m : MethodId} {args : Array Value} {below : List Frame} {meth : Method} {c : Code} {Q : State → Prop} {K : zK} {ph : Bool} {c0 s0 : Int} {gs : zG} {nm : String} {cc : ByteArray} {pc : Nat} {L st : List zV} {M : zM} {d oc op nx tg len : Nat} {ret : Option FieldType} {r : List Int} {q : zC} (hC : zCtx K (zow oc) nm cc p s m args meth c) (hH : zHy l R K ph c0 s0 d M q.2.2.2) (hdg : decode cc pc = .ok (.irem, len)) (hck : zokI oc nm ret pc op nx tg r (.irem) len = true) (hst : zstep ph (zEm ph d) op nx tg r L st M = some (.inl q)) (hk : ∀ gx, zGo p l e R s m args below meth c Q K ph c0 s0 (gs ++ gx) q.1 q.2.1 q.2.2.1 q.2.2.2) : zGo p l e R s m args below meth c Q K ph c0 s0 gs pc L st M := by
  simp only [zokI, Bool.and_eq_true, Bool.or_eq_true, beq_iff_eq, decide_eq_true_eq] at hck
  obtain ⟨⟨rfl, rfl⟩, rfl⟩ := hck
  obtain ⟨st1, hw, rfl⟩ := zmap_inl (o := zF1_2 14 st) (f := fun w => (_, L, w, M)) hst
  have hk0 := hk []
  rw [List.append_nil] at hk0
  exact zs_irem hC hdg hw hk0
theorem zd_iand {p : Program} {l : Launch} {e : Env} {R : Room} {s : State} {m : MethodId} {args : Array Value} {below : List Frame} {meth : Method} {c : Code} {Q : State → Prop} {K : zK} {ph : Bool} {c0 s0 : Int} {gs : zG} {nm : String} {cc : ByteArray} {pc : Nat} {L st : List zV} {M : zM} {d oc op nx tg len : Nat} {ret : Option FieldType} {r : List Int} {q : zC} (hC : zCtx K (zow oc) nm cc p s m args meth c) (hH : zHy l R K ph c0 s0 d M q.2.2.2) (hdg : decode cc pc = .ok (.iand, len)) (hck : zokI oc nm ret pc op nx tg r (.iand) len = true) (hst : zstep ph (zEm ph d) op nx tg r L st M = some (.inl q)) (hk : ∀ gx, zGo p l e R s m args below meth c Q K ph c0 s0 (gs ++ gx) q.1 q.2.1 q.2.2.1 q.2.2.2) : zGo p l e R s m args below meth c Q K ph c0 s0 gs pc L st M := by
  simp only [zokI, Bool.and_eq_true, Bool.or_eq_true, beq_iff_eq, decide_eq_true_eq] at hck
  obtain ⟨⟨rfl, rfl⟩, rfl⟩ := hck
  obtain ⟨st1, hw, rfl⟩ := zmap_inl (o := zF1_2 16 st) (f := fun w => (_, L, w, M)) hst
  have hk0 := hk []
  rw [List.append_nil] at hk0
  exact zs_iand hC hdg hw hk0
theorem zd_ior {p : Program} {l : Launch} {e : Env} {R : Room} {s : State} {m : MethodId} {args : Array Value} {below : List Frame} {meth : Method} {c : Code} {Q : State → Prop} {K : zK} {ph : Bool} {c0 s0 : Int} {gs : zG} {nm : String} {cc : ByteArray} {pc : Nat} {L st : List zV} {M : zM} {d oc op nx tg len : Nat} {ret : Option FieldType} {r : List Int} {q : zC} (hC : zCtx K (zow oc) nm cc p s m args meth c) (hH : zHy l R K ph c0 s0 d M q.2.2.2) (hdg : decode cc pc = .ok (.ior, len)) (hck : zokI oc nm ret pc op nx tg r (.ior) len = true) (hst : zstep ph (zEm ph d) op nx tg r L st M = some (.inl q)) (hk : ∀ gx, zGo p l e R s m args below meth c Q K ph c0 s0 (gs ++ gx) q.1 q.2.1 q.2.2.1 q.2.2.2) : zGo p l e R s m args below meth c Q K ph c0 s0 gs pc L st M := by
  simp only [zokI, Bool.and_eq_true, Bool.or_eq_true, beq_iff_eq, decide_eq_true_eq] at hck
  obtain ⟨⟨rfl, rfl⟩, rfl⟩ := hck
  obtain ⟨st1, hw, rfl⟩ := zmap_inl (o := zF1_2 17 st) (f := fun w => (_, L, w, M)) hst
  have hk0 := hk []
  rw [List.append_nil] at hk0
  exact zs_ior hC hdg hw hk0
theorem zd_ixor {p : Program} {l : Launch} {e : Env} {R : Room} {s : State} {m : MethodId} {args : Array Value} {below : List Frame} {meth : Method} {c : Code} {Q : State → Prop} {K : zK} {ph : Bool} {c0 s0 : Int} {gs : zG} {nm : String} {cc : ByteArray} {pc : Nat} {L st : List zV} {M : zM} {d oc op nx tg len : Nat} {ret : Option FieldType} {r : List Int} {q : zC} (hC : zCtx K (zow oc) nm cc p s m args meth c) (hH : zHy l R K ph c0 s0 d M q.2.2.2) (hdg : decode cc pc = .ok (.ixor, len)) (hck : zokI oc nm ret pc op nx tg r (.ixor) len = true) (hst : zstep ph (zEm ph d) op nx tg r L st M = some (.inl q)) (hk : ∀ gx, zGo p l e R s m args below meth c Q K ph c0 s0 (gs ++ gx) q.1 q.2.1 q.2.2.1 q.2.2.2) : zGo p l e R s m args below meth c Q K ph c0 s0 gs pc L st M := by
  simp only [zokI, Bool.and_eq_true, Bool.or_eq_true, beq_iff_eq, decide_eq_true_eq] at hck
  obtain ⟨⟨rfl, rfl⟩, rfl⟩ := hck
  obtain ⟨st1, hw, rfl⟩ := zmap_inl (o := zF1_2 18 st) (f := fun w => (_, L, w, M)) hst
  have hk0 := hk []
  rw [List.append_nil] at hk0
  exact zs_ixor hC hdg hw hk0
theorem zd_ishl {p : Program} {l : Launch} {e : Env} {R : Room} {s : State} {m : MethodId} {args : Array Value} {below : List Frame} {meth : Method} {c : Code} {Q : State → Prop} {K : zK} {ph : Bool} {c0 s0 : Int} {gs : zG} {nm : String} {cc : ByteArray} {pc : Nat} {L st : List zV} {M : zM} {d oc op nx tg len : Nat} {ret : Option FieldType} {r : List Int} {q : zC} (hC : zCtx K (zow oc) nm cc p s m args meth c) (hH : zHy l R K ph c0 s0 d M q.2.2.2) (hdg : decode cc pc = .ok (.ishl, len)) (hck : zokI oc nm ret pc op nx tg r (.ishl) len = true) (hst : zstep ph (zEm ph d) op nx tg r L st M = some (.inl q)) (hk : ∀ gx, zGo p l e R s m args below meth c Q K ph c0 s0 (gs ++ gx) q.1 q.2.1 q.2.2.1 q.2.2.2) : zGo p l e R s m args below meth c Q K ph c0 s0 gs pc L st M := by
  simp only [zokI, Bool.and_eq_true, Bool.or_eq_true, beq_iff_eq, decide_eq_true_eq] at hck
  obtain ⟨⟨rfl, rfl⟩, rfl⟩ := hck
  obtain ⟨st1, hw, rfl⟩ := zmap_inl (o := zF1_2 19 st) (f := fun w => (_, L, w, M)) hst
  have hk0 := hk []
  rw [List.append_nil] at hk0
  exact zs_ishl hC hdg hw hk0
theorem zd_ishr {p : Program} {l : Launch} {e : Env} {R : Room} {s : State} {m : MethodId} {args : Array Value} {below : List Frame} {meth : Method} {c : Code} {Q : State → Prop} {K : zK} {ph : Bool} {c0 s0 : Int} {gs : zG} {nm : String} {cc : ByteArray} {pc : Nat} {L st : List zV} {M : zM} {d oc op nx tg len : Nat} {ret : Option FieldType} {r : List Int} {q : zC} (hC : zCtx K (zow oc) nm cc p s m args meth c) (hH : zHy l R K ph c0 s0 d M q.2.2.2) (hdg : decode cc pc = .ok (.ishr, len)) (hck : zokI oc nm ret pc op nx tg r (.ishr) len = true) (hst : zstep ph (zEm ph d) op nx tg r L st M = some (.inl q)) (hk : ∀ gx, zGo p l e R s m args below meth c Q K ph c0 s0 (gs ++ gx) q.1 q.2.1 q.2.2.1 q.2.2.2) : zGo p l e R s m args below meth c Q K ph c0 s0 gs pc L st M := by
  simp only [zokI, Bool.and_eq_true, Bool.or_eq_true, beq_iff_eq, decide_eq_true_eq] at hck
  obtain ⟨⟨rfl, rfl⟩, rfl⟩ := hck
  obtain ⟨st1, hw, rfl⟩ := zmap_inl (o := zF1_2 20 st) (f := fun w => (_, L, w, M)) hst
  have hk0 := hk []
  rw [List.append_nil] at hk0
  exact zs_ishr hC hdg hw hk0
theorem zd_iushr {p : Program} {l : Launch} {e : Env} {R : Room} {s : State} {m : MethodId} {args : Array Value} {below : List Frame} {meth : Method} {c : Code} {Q : State → Prop} {K : zK} {ph : Bool} {c0 s0 : Int} {gs : zG} {nm : String} {cc : ByteArray} {pc : Nat} {L st : List zV} {M : zM} {d oc op nx tg len : Nat} {ret : Option FieldType} {r : List Int} {q : zC} (hC : zCtx K (zow oc) nm cc p s m args meth c) (hH : zHy l R K ph c0 s0 d M q.2.2.2) (hdg : decode cc pc = .ok (.iushr, len)) (hck : zokI oc nm ret pc op nx tg r (.iushr) len = true) (hst : zstep ph (zEm ph d) op nx tg r L st M = some (.inl q)) (hk : ∀ gx, zGo p l e R s m args below meth c Q K ph c0 s0 (gs ++ gx) q.1 q.2.1 q.2.2.1 q.2.2.2) : zGo p l e R s m args below meth c Q K ph c0 s0 gs pc L st M := by
  simp only [zokI, Bool.and_eq_true, Bool.or_eq_true, beq_iff_eq, decide_eq_true_eq] at hck
  obtain ⟨⟨rfl, rfl⟩, rfl⟩ := hck
  obtain ⟨st1, hw, rfl⟩ := zmap_inl (o := zF1_2 21 st) (f := fun w => (_, L, w, M)) hst
  have hk0 := hk []
  rw [List.append_nil] at hk0
  exact zs_iushr hC hdg hw hk0
theorem zd_ineg {p : Program} {l : Launch} {e : Env} {R : Room} {s : State} {m : MethodId} {args : Array Value} {below : List Frame} {meth : Method} {c : Code} {Q : State → Prop} {K : zK} {ph : Bool} {c0 s0 : Int} {gs : zG} {nm : String} {cc : ByteArray} {pc : Nat} {L st : List zV} {M : zM} {d oc op nx tg len : Nat} {ret : Option FieldType} {r : List Int} {q : zC} (hC : zCtx K (zow oc) nm cc p s m args meth c) (hH : zHy l R K ph c0 s0 d M q.2.2.2) (hdg : decode cc pc = .ok (.ineg, len)) (hck : zokI oc nm ret pc op nx tg r (.ineg) len = true) (hst : zstep ph (zEm ph d) op nx tg r L st M = some (.inl q)) (hk : ∀ gx, zGo p l e R s m args below meth c Q K ph c0 s0 (gs ++ gx) q.1 q.2.1 q.2.2.1 q.2.2.2) : zGo p l e R s m args below meth c Q K ph c0 s0 gs pc L st M := by
  simp only [zokI, Bool.and_eq_true, Bool.or_eq_true, beq_iff_eq, decide_eq_true_eq] at hck
  obtain ⟨⟨rfl, rfl⟩, rfl⟩ := hck
  obtain ⟨st1, hw, rfl⟩ := zmap_inl (o := zF1_n st) (f := fun w => (_, L, w, M)) hst
  have hk0 := hk []
  rw [List.append_nil] at hk0
  exact zs_ineg hC hdg hw hk0
theorem zd_ladd {p : Program} {l : Launch} {e : Env} {R : Room} {s : State} {m : MethodId} {args : Array Value} {below : List Frame} {meth : Method} {c : Code} {Q : State → Prop} {K : zK} {ph : Bool} {c0 s0 : Int} {gs : zG} {nm : String} {cc : ByteArray} {pc : Nat} {L st : List zV} {M : zM} {d oc op nx tg len : Nat} {ret : Option FieldType} {r : List Int} {q : zC} (hC : zCtx K (zow oc) nm cc p s m args meth c) (hH : zHy l R K ph c0 s0 d M q.2.2.2) (hdg : decode cc pc = .ok (.ladd, len)) (hck : zokI oc nm ret pc op nx tg r (.ladd) len = true) (hst : zstep ph (zEm ph d) op nx tg r L st M = some (.inl q)) (hk : ∀ gx, zGo p l e R s m args below meth c Q K ph c0 s0 (gs ++ gx) q.1 q.2.1 q.2.2.1 q.2.2.2) : zGo p l e R s m args below meth c Q K ph c0 s0 gs pc L st M := by
  simp only [zokI, Bool.and_eq_true, Bool.or_eq_true, beq_iff_eq, decide_eq_true_eq] at hck
  obtain ⟨⟨rfl, rfl⟩, rfl⟩ := hck
  obtain ⟨st1, hw, rfl⟩ := zmap_inl (o := zF1_l 22 st) (f := fun w => (_, L, w, M)) hst
  have hk0 := hk []
  rw [List.append_nil] at hk0
  exact zs_ladd hC hdg hw hk0
theorem zd_lsub {p : Program} {l : Launch} {e : Env} {R : Room} {s : State} {m : MethodId} {args : Array Value} {below : List Frame} {meth : Method} {c : Code} {Q : State → Prop} {K : zK} {ph : Bool} {c0 s0 : Int} {gs : zG} {nm : String} {cc : ByteArray} {pc : Nat} {L st : List zV} {M : zM} {d oc op nx tg len : Nat} {ret : Option FieldType} {r : List Int} {q : zC} (hC : zCtx K (zow oc) nm cc p s m args meth c) (hH : zHy l R K ph c0 s0 d M q.2.2.2) (hdg : decode cc pc = .ok (.lsub, len)) (hck : zokI oc nm ret pc op nx tg r (.lsub) len = true) (hst : zstep ph (zEm ph d) op nx tg r L st M = some (.inl q)) (hk : ∀ gx, zGo p l e R s m args below meth c Q K ph c0 s0 (gs ++ gx) q.1 q.2.1 q.2.2.1 q.2.2.2) : zGo p l e R s m args below meth c Q K ph c0 s0 gs pc L st M := by
  simp only [zokI, Bool.and_eq_true, Bool.or_eq_true, beq_iff_eq, decide_eq_true_eq] at hck
  obtain ⟨⟨rfl, rfl⟩, rfl⟩ := hck
  obtain ⟨st1, hw, rfl⟩ := zmap_inl (o := zF1_l 23 st) (f := fun w => (_, L, w, M)) hst
  have hk0 := hk []
  rw [List.append_nil] at hk0
  exact zs_lsub hC hdg hw hk0
theorem zd_lmul {p : Program} {l : Launch} {e : Env} {R : Room} {s : State} {m : MethodId} {args : Array Value} {below : List Frame} {meth : Method} {c : Code} {Q : State → Prop} {K : zK} {ph : Bool} {c0 s0 : Int} {gs : zG} {nm : String} {cc : ByteArray} {pc : Nat} {L st : List zV} {M : zM} {d oc op nx tg len : Nat} {ret : Option FieldType} {r : List Int} {q : zC} (hC : zCtx K (zow oc) nm cc p s m args meth c) (hH : zHy l R K ph c0 s0 d M q.2.2.2) (hdg : decode cc pc = .ok (.lmul, len)) (hck : zokI oc nm ret pc op nx tg r (.lmul) len = true) (hst : zstep ph (zEm ph d) op nx tg r L st M = some (.inl q)) (hk : ∀ gx, zGo p l e R s m args below meth c Q K ph c0 s0 (gs ++ gx) q.1 q.2.1 q.2.2.1 q.2.2.2) : zGo p l e R s m args below meth c Q K ph c0 s0 gs pc L st M := by
  simp only [zokI, Bool.and_eq_true, Bool.or_eq_true, beq_iff_eq, decide_eq_true_eq] at hck
  obtain ⟨⟨rfl, rfl⟩, rfl⟩ := hck
  obtain ⟨st1, hw, rfl⟩ := zmap_inl (o := zF1_l 24 st) (f := fun w => (_, L, w, M)) hst
  have hk0 := hk []
  rw [List.append_nil] at hk0
  exact zs_lmul hC hdg hw hk0
theorem zd_ldiv {p : Program} {l : Launch} {e : Env} {R : Room} {s : State} {m : MethodId} {args : Array Value} {below : List Frame} {meth : Method} {c : Code} {Q : State → Prop} {K : zK} {ph : Bool} {c0 s0 : Int} {gs : zG} {nm : String} {cc : ByteArray} {pc : Nat} {L st : List zV} {M : zM} {d oc op nx tg len : Nat} {ret : Option FieldType} {r : List Int} {q : zC} (hC : zCtx K (zow oc) nm cc p s m args meth c) (hH : zHy l R K ph c0 s0 d M q.2.2.2) (hdg : decode cc pc = .ok (.ldiv, len)) (hck : zokI oc nm ret pc op nx tg r (.ldiv) len = true) (hst : zstep ph (zEm ph d) op nx tg r L st M = some (.inl q)) (hk : ∀ gx, zGo p l e R s m args below meth c Q K ph c0 s0 (gs ++ gx) q.1 q.2.1 q.2.2.1 q.2.2.2) : zGo p l e R s m args below meth c Q K ph c0 s0 gs pc L st M := by
  simp only [zokI, Bool.and_eq_true, Bool.or_eq_true, beq_iff_eq, decide_eq_true_eq] at hck
  obtain ⟨⟨rfl, rfl⟩, rfl⟩ := hck
  obtain ⟨st1, hw, rfl⟩ := zmap_inl (o := zF1_l 25 st) (f := fun w => (_, L, w, M)) hst
  have hk0 := hk []
  rw [List.append_nil] at hk0
  exact zs_ldiv hC hdg hw hk0
theorem zd_lrem {p : Program} {l : Launch} {e : Env} {R : Room} {s : State} {m : MethodId} {args : Array Value} {below : List Frame} {meth : Method} {c : Code} {Q : State → Prop} {K : zK} {ph : Bool} {c0 s0 : Int} {gs : zG} {nm : String} {cc : ByteArray} {pc : Nat} {L st : List zV} {M : zM} {d oc op nx tg len : Nat} {ret : Option FieldType} {r : List Int} {q : zC} (hC : zCtx K (zow oc) nm cc p s m args meth c) (hH : zHy l R K ph c0 s0 d M q.2.2.2) (hdg : decode cc pc = .ok (.lrem, len)) (hck : zokI oc nm ret pc op nx tg r (.lrem) len = true) (hst : zstep ph (zEm ph d) op nx tg r L st M = some (.inl q)) (hk : ∀ gx, zGo p l e R s m args below meth c Q K ph c0 s0 (gs ++ gx) q.1 q.2.1 q.2.2.1 q.2.2.2) : zGo p l e R s m args below meth c Q K ph c0 s0 gs pc L st M := by
  simp only [zokI, Bool.and_eq_true, Bool.or_eq_true, beq_iff_eq, decide_eq_true_eq] at hck
  obtain ⟨⟨rfl, rfl⟩, rfl⟩ := hck
  obtain ⟨st1, hw, rfl⟩ := zmap_inl (o := zF1_l 26 st) (f := fun w => (_, L, w, M)) hst
  have hk0 := hk []
  rw [List.append_nil] at hk0
  exact zs_lrem hC hdg hw hk0
theorem zd_land {p : Program} {l : Launch} {e : Env} {R : Room} {s : State} {m : MethodId} {args : Array Value} {below : List Frame} {meth : Method} {c : Code} {Q : State → Prop} {K : zK} {ph : Bool} {c0 s0 : Int} {gs : zG} {nm : String} {cc : ByteArray} {pc : Nat} {L st : List zV} {M : zM} {d oc op nx tg len : Nat} {ret : Option FieldType} {r : List Int} {q : zC} (hC : zCtx K (zow oc) nm cc p s m args meth c) (hH : zHy l R K ph c0 s0 d M q.2.2.2) (hdg : decode cc pc = .ok (.land, len)) (hck : zokI oc nm ret pc op nx tg r (.land) len = true) (hst : zstep ph (zEm ph d) op nx tg r L st M = some (.inl q)) (hk : ∀ gx, zGo p l e R s m args below meth c Q K ph c0 s0 (gs ++ gx) q.1 q.2.1 q.2.2.1 q.2.2.2) : zGo p l e R s m args below meth c Q K ph c0 s0 gs pc L st M := by
  simp only [zokI, Bool.and_eq_true, Bool.or_eq_true, beq_iff_eq, decide_eq_true_eq] at hck
  obtain ⟨⟨rfl, rfl⟩, rfl⟩ := hck
  obtain ⟨st1, hw, rfl⟩ := zmap_inl (o := zF1_l 32 st) (f := fun w => (_, L, w, M)) hst
  have hk0 := hk []
  rw [List.append_nil] at hk0
  exact zs_land hC hdg hw hk0
theorem zd_lor {p : Program} {l : Launch} {e : Env} {R : Room} {s : State} {m : MethodId} {args : Array Value} {below : List Frame} {meth : Method} {c : Code} {Q : State → Prop} {K : zK} {ph : Bool} {c0 s0 : Int} {gs : zG} {nm : String} {cc : ByteArray} {pc : Nat} {L st : List zV} {M : zM} {d oc op nx tg len : Nat} {ret : Option FieldType} {r : List Int} {q : zC} (hC : zCtx K (zow oc) nm cc p s m args meth c) (hH : zHy l R K ph c0 s0 d M q.2.2.2) (hdg : decode cc pc = .ok (.lor, len)) (hck : zokI oc nm ret pc op nx tg r (.lor) len = true) (hst : zstep ph (zEm ph d) op nx tg r L st M = some (.inl q)) (hk : ∀ gx, zGo p l e R s m args below meth c Q K ph c0 s0 (gs ++ gx) q.1 q.2.1 q.2.2.1 q.2.2.2) : zGo p l e R s m args below meth c Q K ph c0 s0 gs pc L st M := by
  simp only [zokI, Bool.and_eq_true, Bool.or_eq_true, beq_iff_eq, decide_eq_true_eq] at hck
  obtain ⟨⟨rfl, rfl⟩, rfl⟩ := hck
  obtain ⟨st1, hw, rfl⟩ := zmap_inl (o := zF1_l 33 st) (f := fun w => (_, L, w, M)) hst
  have hk0 := hk []
  rw [List.append_nil] at hk0
  exact zs_lor hC hdg hw hk0
theorem zd_lcmp {p : Program} {l : Launch} {e : Env} {R : Room} {s : State} {m : MethodId} {args : Array Value} {below : List Frame} {meth : Method} {c : Code} {Q : State → Prop} {K : zK} {ph : Bool} {c0 s0 : Int} {gs : zG} {nm : String} {cc : ByteArray} {pc : Nat} {L st : List zV} {M : zM} {d oc op nx tg len : Nat} {ret : Option FieldType} {r : List Int} {q : zC} (hC : zCtx K (zow oc) nm cc p s m args meth c) (hH : zHy l R K ph c0 s0 d M q.2.2.2) (hdg : decode cc pc = .ok (.lcmp, len)) (hck : zokI oc nm ret pc op nx tg r (.lcmp) len = true) (hst : zstep ph (zEm ph d) op nx tg r L st M = some (.inl q)) (hk : ∀ gx, zGo p l e R s m args below meth c Q K ph c0 s0 (gs ++ gx) q.1 q.2.1 q.2.2.1 q.2.2.2) : zGo p l e R s m args below meth c Q K ph c0 s0 gs pc L st M := by
  simp only [zokI, Bool.and_eq_true, Bool.or_eq_true, beq_iff_eq, decide_eq_true_eq] at hck
  obtain ⟨⟨rfl, rfl⟩, rfl⟩ := hck
  obtain ⟨st1, hw, rfl⟩ := zmap_inl (o := zF1_cmp st) (f := fun w => (_, L, w, M)) hst
  have hk0 := hk []
  rw [List.append_nil] at hk0
  exact zs_lcmp hC hdg hw hk0
theorem zd_i2l {p : Program} {l : Launch} {e : Env} {R : Room} {s : State} {m : MethodId} {args : Array Value} {below : List Frame} {meth : Method} {c : Code} {Q : State → Prop} {K : zK} {ph : Bool} {c0 s0 : Int} {gs : zG} {nm : String} {cc : ByteArray} {pc : Nat} {L st : List zV} {M : zM} {d oc op nx tg len : Nat} {ret : Option FieldType} {r : List Int} {q : zC} (hC : zCtx K (zow oc) nm cc p s m args meth c) (hH : zHy l R K ph c0 s0 d M q.2.2.2) (hdg : decode cc pc = .ok (.i2l, len)) (hck : zokI oc nm ret pc op nx tg r (.i2l) len = true) (hst : zstep ph (zEm ph d) op nx tg r L st M = some (.inl q)) (hk : ∀ gx, zGo p l e R s m args below meth c Q K ph c0 s0 (gs ++ gx) q.1 q.2.1 q.2.2.1 q.2.2.2) : zGo p l e R s m args below meth c Q K ph c0 s0 gs pc L st M := by
  simp only [zokI, Bool.and_eq_true, Bool.or_eq_true, beq_iff_eq, decide_eq_true_eq] at hck
  obtain ⟨⟨rfl, rfl⟩, rfl⟩ := hck
  obtain ⟨st1, hw, rfl⟩ := zmap_inl (o := zF1_c 28 st) (f := fun w => (_, L, w, M)) hst
  have hk0 := hk []
  rw [List.append_nil] at hk0
  exact zs_i2l hC hdg hw hk0
theorem zd_i2c {p : Program} {l : Launch} {e : Env} {R : Room} {s : State} {m : MethodId} {args : Array Value} {below : List Frame} {meth : Method} {c : Code} {Q : State → Prop} {K : zK} {ph : Bool} {c0 s0 : Int} {gs : zG} {nm : String} {cc : ByteArray} {pc : Nat} {L st : List zV} {M : zM} {d oc op nx tg len : Nat} {ret : Option FieldType} {r : List Int} {q : zC} (hC : zCtx K (zow oc) nm cc p s m args meth c) (hH : zHy l R K ph c0 s0 d M q.2.2.2) (hdg : decode cc pc = .ok (.i2c, len)) (hck : zokI oc nm ret pc op nx tg r (.i2c) len = true) (hst : zstep ph (zEm ph d) op nx tg r L st M = some (.inl q)) (hk : ∀ gx, zGo p l e R s m args below meth c Q K ph c0 s0 (gs ++ gx) q.1 q.2.1 q.2.2.1 q.2.2.2) : zGo p l e R s m args below meth c Q K ph c0 s0 gs pc L st M := by
  simp only [zokI, Bool.and_eq_true, Bool.or_eq_true, beq_iff_eq, decide_eq_true_eq] at hck
  obtain ⟨⟨rfl, rfl⟩, rfl⟩ := hck
  obtain ⟨st1, hw, rfl⟩ := zmap_inl (o := zF1_c 30 st) (f := fun w => (_, L, w, M)) hst
  have hk0 := hk []
  rw [List.append_nil] at hk0
  exact zs_i2c hC hdg hw hk0
theorem zd_i2b {p : Program} {l : Launch} {e : Env} {R : Room} {s : State} {m : MethodId} {args : Array Value} {below : List Frame} {meth : Method} {c : Code} {Q : State → Prop} {K : zK} {ph : Bool} {c0 s0 : Int} {gs : zG} {nm : String} {cc : ByteArray} {pc : Nat} {L st : List zV} {M : zM} {d oc op nx tg len : Nat} {ret : Option FieldType} {r : List Int} {q : zC} (hC : zCtx K (zow oc) nm cc p s m args meth c) (hH : zHy l R K ph c0 s0 d M q.2.2.2) (hdg : decode cc pc = .ok (.i2b, len)) (hck : zokI oc nm ret pc op nx tg r (.i2b) len = true) (hst : zstep ph (zEm ph d) op nx tg r L st M = some (.inl q)) (hk : ∀ gx, zGo p l e R s m args below meth c Q K ph c0 s0 (gs ++ gx) q.1 q.2.1 q.2.2.1 q.2.2.2) : zGo p l e R s m args below meth c Q K ph c0 s0 gs pc L st M := by
  simp only [zokI, Bool.and_eq_true, Bool.or_eq_true, beq_iff_eq, decide_eq_true_eq] at hck
  obtain ⟨⟨rfl, rfl⟩, rfl⟩ := hck
  obtain ⟨st1, hw, rfl⟩ := zmap_inl (o := zF1_c 31 st) (f := fun w => (_, L, w, M)) hst
  have hk0 := hk []
  rw [List.append_nil] at hk0
  exact zs_i2b hC hdg hw hk0
theorem zd_l2i {p : Program} {l : Launch} {e : Env} {R : Room} {s : State} {m : MethodId} {args : Array Value} {below : List Frame} {meth : Method} {c : Code} {Q : State → Prop} {K : zK} {ph : Bool} {c0 s0 : Int} {gs : zG} {nm : String} {cc : ByteArray} {pc : Nat} {L st : List zV} {M : zM} {d oc op nx tg len : Nat} {ret : Option FieldType} {r : List Int} {q : zC} (hC : zCtx K (zow oc) nm cc p s m args meth c) (hH : zHy l R K ph c0 s0 d M q.2.2.2) (hdg : decode cc pc = .ok (.l2i, len)) (hck : zokI oc nm ret pc op nx tg r (.l2i) len = true) (hst : zstep ph (zEm ph d) op nx tg r L st M = some (.inl q)) (hk : ∀ gx, zGo p l e R s m args below meth c Q K ph c0 s0 (gs ++ gx) q.1 q.2.1 q.2.2.1 q.2.2.2) : zGo p l e R s m args below meth c Q K ph c0 s0 gs pc L st M := by
  simp only [zokI, Bool.and_eq_true, Bool.or_eq_true, beq_iff_eq, decide_eq_true_eq] at hck
  obtain ⟨⟨rfl, rfl⟩, rfl⟩ := hck
  obtain ⟨st1, hw, rfl⟩ := zmap_inl (o := zF1_li st) (f := fun w => (_, L, w, M)) hst
  have hk0 := hk []
  rw [List.append_nil] at hk0
  exact zs_l2i hC hdg hw hk0
theorem zd_lshl {p : Program} {l : Launch} {e : Env} {R : Room} {s : State} {m : MethodId} {args : Array Value} {below : List Frame} {meth : Method} {c : Code} {Q : State → Prop} {K : zK} {ph : Bool} {c0 s0 : Int} {gs : zG} {nm : String} {cc : ByteArray} {pc : Nat} {L st : List zV} {M : zM} {d oc op nx tg len : Nat} {ret : Option FieldType} {r : List Int} {q : zC} (hC : zCtx K (zow oc) nm cc p s m args meth c) (hH : zHy l R K ph c0 s0 d M q.2.2.2) (hdg : decode cc pc = .ok (.lshl, len)) (hck : zokI oc nm ret pc op nx tg r (.lshl) len = true) (hst : zstep ph (zEm ph d) op nx tg r L st M = some (.inl q)) (hk : ∀ gx, zGo p l e R s m args below meth c Q K ph c0 s0 (gs ++ gx) q.1 q.2.1 q.2.2.1 q.2.2.2) : zGo p l e R s m args below meth c Q K ph c0 s0 gs pc L st M := by
  simp only [zokI, Bool.and_eq_true, Bool.or_eq_true, beq_iff_eq, decide_eq_true_eq] at hck
  obtain ⟨⟨rfl, rfl⟩, rfl⟩ := hck
  obtain ⟨st1, hw, rfl⟩ := zmap_inl (o := zF1_sh 34 st) (f := fun w => (_, L, w, M)) hst
  have hk0 := hk []
  rw [List.append_nil] at hk0
  exact zs_lshl hC hdg hw hk0
theorem zd_lushr {p : Program} {l : Launch} {e : Env} {R : Room} {s : State} {m : MethodId} {args : Array Value} {below : List Frame} {meth : Method} {c : Code} {Q : State → Prop} {K : zK} {ph : Bool} {c0 s0 : Int} {gs : zG} {nm : String} {cc : ByteArray} {pc : Nat} {L st : List zV} {M : zM} {d oc op nx tg len : Nat} {ret : Option FieldType} {r : List Int} {q : zC} (hC : zCtx K (zow oc) nm cc p s m args meth c) (hH : zHy l R K ph c0 s0 d M q.2.2.2) (hdg : decode cc pc = .ok (.lushr, len)) (hck : zokI oc nm ret pc op nx tg r (.lushr) len = true) (hst : zstep ph (zEm ph d) op nx tg r L st M = some (.inl q)) (hk : ∀ gx, zGo p l e R s m args below meth c Q K ph c0 s0 (gs ++ gx) q.1 q.2.1 q.2.2.1 q.2.2.2) : zGo p l e R s m args below meth c Q K ph c0 s0 gs pc L st M := by
  simp only [zokI, Bool.and_eq_true, Bool.or_eq_true, beq_iff_eq, decide_eq_true_eq] at hck
  obtain ⟨⟨rfl, rfl⟩, rfl⟩ := hck
  obtain ⟨st1, hw, rfl⟩ := zmap_inl (o := zF1_sh 35 st) (f := fun w => (_, L, w, M)) hst
  have hk0 := hk []
  rw [List.append_nil] at hk0
  exact zs_lushr hC hdg hw hk0
theorem zd_dup {p : Program} {l : Launch} {e : Env} {R : Room} {s : State} {m : MethodId} {args : Array Value} {below : List Frame} {meth : Method} {c : Code} {Q : State → Prop} {K : zK} {ph : Bool} {c0 s0 : Int} {gs : zG} {nm : String} {cc : ByteArray} {pc : Nat} {L st : List zV} {M : zM} {d oc op nx tg len : Nat} {ret : Option FieldType} {r : List Int} {q : zC} (hC : zCtx K (zow oc) nm cc p s m args meth c) (hH : zHy l R K ph c0 s0 d M q.2.2.2) (hdg : decode cc pc = .ok (.dup, len)) (hck : zokI oc nm ret pc op nx tg r (.dup) len = true) (hst : zstep ph (zEm ph d) op nx tg r L st M = some (.inl q)) (hk : ∀ gx, zGo p l e R s m args below meth c Q K ph c0 s0 (gs ++ gx) q.1 q.2.1 q.2.2.1 q.2.2.2) : zGo p l e R s m args below meth c Q K ph c0 s0 gs pc L st M := by
  simp only [zokI, Bool.and_eq_true, Bool.or_eq_true, beq_iff_eq, decide_eq_true_eq] at hck
  obtain ⟨⟨rfl, rfl⟩, rfl⟩ := hck
  obtain ⟨st1, hw, rfl⟩ := zmap_inl (o := zF1_d 36 st) (f := fun w => (_, L, w, M)) hst
  have hk0 := hk []
  rw [List.append_nil] at hk0
  exact zs_dup hC hdg hw hk0
theorem zd_pop {p : Program} {l : Launch} {e : Env} {R : Room} {s : State} {m : MethodId} {args : Array Value} {below : List Frame} {meth : Method} {c : Code} {Q : State → Prop} {K : zK} {ph : Bool} {c0 s0 : Int} {gs : zG} {nm : String} {cc : ByteArray} {pc : Nat} {L st : List zV} {M : zM} {d oc op nx tg len : Nat} {ret : Option FieldType} {r : List Int} {q : zC} (hC : zCtx K (zow oc) nm cc p s m args meth c) (hH : zHy l R K ph c0 s0 d M q.2.2.2) (hdg : decode cc pc = .ok (.pop, len)) (hck : zokI oc nm ret pc op nx tg r (.pop) len = true) (hst : zstep ph (zEm ph d) op nx tg r L st M = some (.inl q)) (hk : ∀ gx, zGo p l e R s m args below meth c Q K ph c0 s0 (gs ++ gx) q.1 q.2.1 q.2.2.1 q.2.2.2) : zGo p l e R s m args below meth c Q K ph c0 s0 gs pc L st M := by
  simp only [zokI, Bool.and_eq_true, Bool.or_eq_true, beq_iff_eq, decide_eq_true_eq] at hck
  obtain ⟨⟨rfl, rfl⟩, rfl⟩ := hck
  obtain ⟨st1, hw, rfl⟩ := zmap_inl (o := zF1_d 38 st) (f := fun w => (_, L, w, M)) hst
  have hk0 := hk []
  rw [List.append_nil] at hk0
  exact zs_pop hC hdg hw hk0
theorem zd_dup2 {p : Program} {l : Launch} {e : Env} {R : Room} {s : State} {m : MethodId} {args : Array Value} {below : List Frame} {meth : Method} {c : Code} {Q : State → Prop} {K : zK} {ph : Bool} {c0 s0 : Int} {gs : zG} {nm : String} {cc : ByteArray} {pc : Nat} {L st : List zV} {M : zM} {d oc op nx tg len : Nat} {ret : Option FieldType} {r : List Int} {q : zC} (hC : zCtx K (zow oc) nm cc p s m args meth c) (hH : zHy l R K ph c0 s0 d M q.2.2.2) (hdg : decode cc pc = .ok (.dup2, len)) (hck : zokI oc nm ret pc op nx tg r (.dup2) len = true) (hst : zstep ph (zEm ph d) op nx tg r L st M = some (.inl q)) (hk : ∀ gx, zGo p l e R s m args below meth c Q K ph c0 s0 (gs ++ gx) q.1 q.2.1 q.2.2.1 q.2.2.2) : zGo p l e R s m args below meth c Q K ph c0 s0 gs pc L st M := by
  simp only [zokI, Bool.and_eq_true, Bool.or_eq_true, beq_iff_eq, decide_eq_true_eq] at hck
  obtain ⟨⟨rfl, rfl⟩, rfl⟩ := hck
  obtain ⟨st1, hw, rfl⟩ := zmap_inl (o := zF1_dd 37 st) (f := fun w => (_, L, w, M)) hst
  have hk0 := hk []
  rw [List.append_nil] at hk0
  exact zs_dup2 hC hdg hw hk0
theorem zd_dup_x1 {p : Program} {l : Launch} {e : Env} {R : Room} {s : State} {m : MethodId} {args : Array Value} {below : List Frame} {meth : Method} {c : Code} {Q : State → Prop} {K : zK} {ph : Bool} {c0 s0 : Int} {gs : zG} {nm : String} {cc : ByteArray} {pc : Nat} {L st : List zV} {M : zM} {d oc op nx tg len : Nat} {ret : Option FieldType} {r : List Int} {q : zC} (hC : zCtx K (zow oc) nm cc p s m args meth c) (hH : zHy l R K ph c0 s0 d M q.2.2.2) (hdg : decode cc pc = .ok (.dup_x1, len)) (hck : zokI oc nm ret pc op nx tg r (.dup_x1) len = true) (hst : zstep ph (zEm ph d) op nx tg r L st M = some (.inl q)) (hk : ∀ gx, zGo p l e R s m args below meth c Q K ph c0 s0 (gs ++ gx) q.1 q.2.1 q.2.2.1 q.2.2.2) : zGo p l e R s m args below meth c Q K ph c0 s0 gs pc L st M := by
  simp only [zokI, Bool.and_eq_true, Bool.or_eq_true, beq_iff_eq, decide_eq_true_eq] at hck
  obtain ⟨⟨rfl, rfl⟩, rfl⟩ := hck
  obtain ⟨st1, hw, rfl⟩ := zmap_inl (o := zF1_dd 39 st) (f := fun w => (_, L, w, M)) hst
  have hk0 := hk []
  rw [List.append_nil] at hk0
  exact zs_dup_x1 hC hdg hw hk0
theorem zd_if_eq {p : Program} {l : Launch} {e : Env} {R : Room} {s : State} {m : MethodId} {args : Array Value} {below : List Frame} {meth : Method} {c : Code} {Q : State → Prop} {K : zK} {ph : Bool} {c0 s0 : Int} {gs : zG} {nm : String} {cc : ByteArray} {pc : Nat} {L st : List zV} {M : zM} {d oc op nx tg len : Nat} {ret : Option FieldType} {r : List Int} {q : zC} {off : Int} (hC : zCtx K (zow oc) nm cc p s m args meth c) (hH : zHy l R K ph c0 s0 d M q.2.2.2) (hdg : decode cc pc = .ok (.ifCond .eq off, len)) (hck : zokI oc nm ret pc op nx tg r (.ifCond .eq off) len = true) (hst : zstep ph (zEm ph d) op nx tg r L st M = some (.inl q)) (hk : ∀ gx, zGo p l e R s m args below meth c Q K ph c0 s0 (gs ++ gx) q.1 q.2.1 q.2.2.1 q.2.2.2) : zGo p l e R s m args below meth c Q K ph c0 s0 gs pc L st M := by
  simp only [zokI, Bool.and_eq_true, Bool.or_eq_true, beq_iff_eq, decide_eq_true_eq] at hck
  obtain ⟨⟨⟨rfl, rfl⟩, rfl⟩, ht⟩ := hck
  obtain ⟨⟨pc1, st1⟩, hw, rfl⟩ := zmap_inl (o := zF2_1 40 (pc + 3) tg st) (f := fun w => (w.1, L, w.2, M)) hst
  have hk0 := hk []
  rw [List.append_nil] at hk0
  exact zs_if_eq hC hdg ht hw hk0
theorem zd_icmp_eq {p : Program} {l : Launch} {e : Env} {R : Room} {s : State} {m : MethodId} {args : Array Value} {below : List Frame} {meth : Method} {c : Code} {Q : State → Prop} {K : zK} {ph : Bool} {c0 s0 : Int} {gs : zG} {nm : String} {cc : ByteArray} {pc : Nat} {L st : List zV} {M : zM} {d oc op nx tg len : Nat} {ret : Option FieldType} {r : List Int} {q : zC} {off : Int} (hC : zCtx K (zow oc) nm cc p s m args meth c) (hH : zHy l R K ph c0 s0 d M q.2.2.2) (hdg : decode cc pc = .ok (.if_icmp .eq off, len)) (hck : zokI oc nm ret pc op nx tg r (.if_icmp .eq off) len = true) (hst : zstep ph (zEm ph d) op nx tg r L st M = some (.inl q)) (hk : ∀ gx, zGo p l e R s m args below meth c Q K ph c0 s0 (gs ++ gx) q.1 q.2.1 q.2.2.1 q.2.2.2) : zGo p l e R s m args below meth c Q K ph c0 s0 gs pc L st M := by
  simp only [zokI, Bool.and_eq_true, Bool.or_eq_true, beq_iff_eq, decide_eq_true_eq] at hck
  obtain ⟨⟨⟨rfl, rfl⟩, rfl⟩, ht⟩ := hck
  obtain ⟨⟨pc1, st1⟩, hw, rfl⟩ := zmap_inl (o := zF2_2 46 (pc + 3) tg st) (f := fun w => (w.1, L, w.2, M)) hst
  have hk0 := hk []
  rw [List.append_nil] at hk0
  exact zs_icmp_eq hC hdg ht hw hk0
theorem zd_if_ne {p : Program} {l : Launch} {e : Env} {R : Room} {s : State} {m : MethodId} {args : Array Value} {below : List Frame} {meth : Method} {c : Code} {Q : State → Prop} {K : zK} {ph : Bool} {c0 s0 : Int} {gs : zG} {nm : String} {cc : ByteArray} {pc : Nat} {L st : List zV} {M : zM} {d oc op nx tg len : Nat} {ret : Option FieldType} {r : List Int} {q : zC} {off : Int} (hC : zCtx K (zow oc) nm cc p s m args meth c) (hH : zHy l R K ph c0 s0 d M q.2.2.2) (hdg : decode cc pc = .ok (.ifCond .ne off, len)) (hck : zokI oc nm ret pc op nx tg r (.ifCond .ne off) len = true) (hst : zstep ph (zEm ph d) op nx tg r L st M = some (.inl q)) (hk : ∀ gx, zGo p l e R s m args below meth c Q K ph c0 s0 (gs ++ gx) q.1 q.2.1 q.2.2.1 q.2.2.2) : zGo p l e R s m args below meth c Q K ph c0 s0 gs pc L st M := by
  simp only [zokI, Bool.and_eq_true, Bool.or_eq_true, beq_iff_eq, decide_eq_true_eq] at hck
  obtain ⟨⟨⟨rfl, rfl⟩, rfl⟩, ht⟩ := hck
  obtain ⟨⟨pc1, st1⟩, hw, rfl⟩ := zmap_inl (o := zF2_1 41 (pc + 3) tg st) (f := fun w => (w.1, L, w.2, M)) hst
  have hk0 := hk []
  rw [List.append_nil] at hk0
  exact zs_if_ne hC hdg ht hw hk0
theorem zd_icmp_ne {p : Program} {l : Launch} {e : Env} {R : Room} {s : State} {m : MethodId} {args : Array Value} {below : List Frame} {meth : Method} {c : Code} {Q : State → Prop} {K : zK} {ph : Bool} {c0 s0 : Int} {gs : zG} {nm : String} {cc : ByteArray} {pc : Nat} {L st : List zV} {M : zM} {d oc op nx tg len : Nat} {ret : Option FieldType} {r : List Int} {q : zC} {off : Int} (hC : zCtx K (zow oc) nm cc p s m args meth c) (hH : zHy l R K ph c0 s0 d M q.2.2.2) (hdg : decode cc pc = .ok (.if_icmp .ne off, len)) (hck : zokI oc nm ret pc op nx tg r (.if_icmp .ne off) len = true) (hst : zstep ph (zEm ph d) op nx tg r L st M = some (.inl q)) (hk : ∀ gx, zGo p l e R s m args below meth c Q K ph c0 s0 (gs ++ gx) q.1 q.2.1 q.2.2.1 q.2.2.2) : zGo p l e R s m args below meth c Q K ph c0 s0 gs pc L st M := by
  simp only [zokI, Bool.and_eq_true, Bool.or_eq_true, beq_iff_eq, decide_eq_true_eq] at hck
  obtain ⟨⟨⟨rfl, rfl⟩, rfl⟩, ht⟩ := hck
  obtain ⟨⟨pc1, st1⟩, hw, rfl⟩ := zmap_inl (o := zF2_2 47 (pc + 3) tg st) (f := fun w => (w.1, L, w.2, M)) hst
  have hk0 := hk []
  rw [List.append_nil] at hk0
  exact zs_icmp_ne hC hdg ht hw hk0
theorem zd_if_lt {p : Program} {l : Launch} {e : Env} {R : Room} {s : State} {m : MethodId} {args : Array Value} {below : List Frame} {meth : Method} {c : Code} {Q : State → Prop} {K : zK} {ph : Bool} {c0 s0 : Int} {gs : zG} {nm : String} {cc : ByteArray} {pc : Nat} {L st : List zV} {M : zM} {d oc op nx tg len : Nat} {ret : Option FieldType} {r : List Int} {q : zC} {off : Int} (hC : zCtx K (zow oc) nm cc p s m args meth c) (hH : zHy l R K ph c0 s0 d M q.2.2.2) (hdg : decode cc pc = .ok (.ifCond .lt off, len)) (hck : zokI oc nm ret pc op nx tg r (.ifCond .lt off) len = true) (hst : zstep ph (zEm ph d) op nx tg r L st M = some (.inl q)) (hk : ∀ gx, zGo p l e R s m args below meth c Q K ph c0 s0 (gs ++ gx) q.1 q.2.1 q.2.2.1 q.2.2.2) : zGo p l e R s m args below meth c Q K ph c0 s0 gs pc L st M := by
  simp only [zokI, Bool.and_eq_true, Bool.or_eq_true, beq_iff_eq, decide_eq_true_eq] at hck
  obtain ⟨⟨⟨rfl, rfl⟩, rfl⟩, ht⟩ := hck
  obtain ⟨⟨pc1, st1⟩, hw, rfl⟩ := zmap_inl (o := zF2_1 42 (pc + 3) tg st) (f := fun w => (w.1, L, w.2, M)) hst
  have hk0 := hk []
  rw [List.append_nil] at hk0
  exact zs_if_lt hC hdg ht hw hk0
theorem zd_icmp_lt {p : Program} {l : Launch} {e : Env} {R : Room} {s : State} {m : MethodId} {args : Array Value} {below : List Frame} {meth : Method} {c : Code} {Q : State → Prop} {K : zK} {ph : Bool} {c0 s0 : Int} {gs : zG} {nm : String} {cc : ByteArray} {pc : Nat} {L st : List zV} {M : zM} {d oc op nx tg len : Nat} {ret : Option FieldType} {r : List Int} {q : zC} {off : Int} (hC : zCtx K (zow oc) nm cc p s m args meth c) (hH : zHy l R K ph c0 s0 d M q.2.2.2) (hdg : decode cc pc = .ok (.if_icmp .lt off, len)) (hck : zokI oc nm ret pc op nx tg r (.if_icmp .lt off) len = true) (hst : zstep ph (zEm ph d) op nx tg r L st M = some (.inl q)) (hk : ∀ gx, zGo p l e R s m args below meth c Q K ph c0 s0 (gs ++ gx) q.1 q.2.1 q.2.2.1 q.2.2.2) : zGo p l e R s m args below meth c Q K ph c0 s0 gs pc L st M := by
  simp only [zokI, Bool.and_eq_true, Bool.or_eq_true, beq_iff_eq, decide_eq_true_eq] at hck
  obtain ⟨⟨⟨rfl, rfl⟩, rfl⟩, ht⟩ := hck
  obtain ⟨⟨pc1, st1⟩, hw, rfl⟩ := zmap_inl (o := zF2_2 48 (pc + 3) tg st) (f := fun w => (w.1, L, w.2, M)) hst
  have hk0 := hk []
  rw [List.append_nil] at hk0
  exact zs_icmp_lt hC hdg ht hw hk0
theorem zd_if_ge {p : Program} {l : Launch} {e : Env} {R : Room} {s : State} {m : MethodId} {args : Array Value} {below : List Frame} {meth : Method} {c : Code} {Q : State → Prop} {K : zK} {ph : Bool} {c0 s0 : Int} {gs : zG} {nm : String} {cc : ByteArray} {pc : Nat} {L st : List zV} {M : zM} {d oc op nx tg len : Nat} {ret : Option FieldType} {r : List Int} {q : zC} {off : Int} (hC : zCtx K (zow oc) nm cc p s m args meth c) (hH : zHy l R K ph c0 s0 d M q.2.2.2) (hdg : decode cc pc = .ok (.ifCond .ge off, len)) (hck : zokI oc nm ret pc op nx tg r (.ifCond .ge off) len = true) (hst : zstep ph (zEm ph d) op nx tg r L st M = some (.inl q)) (hk : ∀ gx, zGo p l e R s m args below meth c Q K ph c0 s0 (gs ++ gx) q.1 q.2.1 q.2.2.1 q.2.2.2) : zGo p l e R s m args below meth c Q K ph c0 s0 gs pc L st M := by
  simp only [zokI, Bool.and_eq_true, Bool.or_eq_true, beq_iff_eq, decide_eq_true_eq] at hck
  obtain ⟨⟨⟨rfl, rfl⟩, rfl⟩, ht⟩ := hck
  obtain ⟨⟨pc1, st1⟩, hw, rfl⟩ := zmap_inl (o := zF2_1 43 (pc + 3) tg st) (f := fun w => (w.1, L, w.2, M)) hst
  have hk0 := hk []
  rw [List.append_nil] at hk0
  exact zs_if_ge hC hdg ht hw hk0
theorem zd_icmp_ge {p : Program} {l : Launch} {e : Env} {R : Room} {s : State} {m : MethodId} {args : Array Value} {below : List Frame} {meth : Method} {c : Code} {Q : State → Prop} {K : zK} {ph : Bool} {c0 s0 : Int} {gs : zG} {nm : String} {cc : ByteArray} {pc : Nat} {L st : List zV} {M : zM} {d oc op nx tg len : Nat} {ret : Option FieldType} {r : List Int} {q : zC} {off : Int} (hC : zCtx K (zow oc) nm cc p s m args meth c) (hH : zHy l R K ph c0 s0 d M q.2.2.2) (hdg : decode cc pc = .ok (.if_icmp .ge off, len)) (hck : zokI oc nm ret pc op nx tg r (.if_icmp .ge off) len = true) (hst : zstep ph (zEm ph d) op nx tg r L st M = some (.inl q)) (hk : ∀ gx, zGo p l e R s m args below meth c Q K ph c0 s0 (gs ++ gx) q.1 q.2.1 q.2.2.1 q.2.2.2) : zGo p l e R s m args below meth c Q K ph c0 s0 gs pc L st M := by
  simp only [zokI, Bool.and_eq_true, Bool.or_eq_true, beq_iff_eq, decide_eq_true_eq] at hck
  obtain ⟨⟨⟨rfl, rfl⟩, rfl⟩, ht⟩ := hck
  obtain ⟨⟨pc1, st1⟩, hw, rfl⟩ := zmap_inl (o := zF2_2 49 (pc + 3) tg st) (f := fun w => (w.1, L, w.2, M)) hst
  have hk0 := hk []
  rw [List.append_nil] at hk0
  exact zs_icmp_ge hC hdg ht hw hk0
theorem zd_if_gt {p : Program} {l : Launch} {e : Env} {R : Room} {s : State} {m : MethodId} {args : Array Value} {below : List Frame} {meth : Method} {c : Code} {Q : State → Prop} {K : zK} {ph : Bool} {c0 s0 : Int} {gs : zG} {nm : String} {cc : ByteArray} {pc : Nat} {L st : List zV} {M : zM} {d oc op nx tg len : Nat} {ret : Option FieldType} {r : List Int} {q : zC} {off : Int} (hC : zCtx K (zow oc) nm cc p s m args meth c) (hH : zHy l R K ph c0 s0 d M q.2.2.2) (hdg : decode cc pc = .ok (.ifCond .gt off, len)) (hck : zokI oc nm ret pc op nx tg r (.ifCond .gt off) len = true) (hst : zstep ph (zEm ph d) op nx tg r L st M = some (.inl q)) (hk : ∀ gx, zGo p l e R s m args below meth c Q K ph c0 s0 (gs ++ gx) q.1 q.2.1 q.2.2.1 q.2.2.2) : zGo p l e R s m args below meth c Q K ph c0 s0 gs pc L st M := by
  simp only [zokI, Bool.and_eq_true, Bool.or_eq_true, beq_iff_eq, decide_eq_true_eq] at hck
  obtain ⟨⟨⟨rfl, rfl⟩, rfl⟩, ht⟩ := hck
  obtain ⟨⟨pc1, st1⟩, hw, rfl⟩ := zmap_inl (o := zF2_1 44 (pc + 3) tg st) (f := fun w => (w.1, L, w.2, M)) hst
  have hk0 := hk []
  rw [List.append_nil] at hk0
  exact zs_if_gt hC hdg ht hw hk0
theorem zd_icmp_gt {p : Program} {l : Launch} {e : Env} {R : Room} {s : State} {m : MethodId} {args : Array Value} {below : List Frame} {meth : Method} {c : Code} {Q : State → Prop} {K : zK} {ph : Bool} {c0 s0 : Int} {gs : zG} {nm : String} {cc : ByteArray} {pc : Nat} {L st : List zV} {M : zM} {d oc op nx tg len : Nat} {ret : Option FieldType} {r : List Int} {q : zC} {off : Int} (hC : zCtx K (zow oc) nm cc p s m args meth c) (hH : zHy l R K ph c0 s0 d M q.2.2.2) (hdg : decode cc pc = .ok (.if_icmp .gt off, len)) (hck : zokI oc nm ret pc op nx tg r (.if_icmp .gt off) len = true) (hst : zstep ph (zEm ph d) op nx tg r L st M = some (.inl q)) (hk : ∀ gx, zGo p l e R s m args below meth c Q K ph c0 s0 (gs ++ gx) q.1 q.2.1 q.2.2.1 q.2.2.2) : zGo p l e R s m args below meth c Q K ph c0 s0 gs pc L st M := by
  simp only [zokI, Bool.and_eq_true, Bool.or_eq_true, beq_iff_eq, decide_eq_true_eq] at hck
  obtain ⟨⟨⟨rfl, rfl⟩, rfl⟩, ht⟩ := hck
  obtain ⟨⟨pc1, st1⟩, hw, rfl⟩ := zmap_inl (o := zF2_2 50 (pc + 3) tg st) (f := fun w => (w.1, L, w.2, M)) hst
  have hk0 := hk []
  rw [List.append_nil] at hk0
  exact zs_icmp_gt hC hdg ht hw hk0
theorem zd_if_le {p : Program} {l : Launch} {e : Env} {R : Room} {s : State} {m : MethodId} {args : Array Value} {below : List Frame} {meth : Method} {c : Code} {Q : State → Prop} {K : zK} {ph : Bool} {c0 s0 : Int} {gs : zG} {nm : String} {cc : ByteArray} {pc : Nat} {L st : List zV} {M : zM} {d oc op nx tg len : Nat} {ret : Option FieldType} {r : List Int} {q : zC} {off : Int} (hC : zCtx K (zow oc) nm cc p s m args meth c) (hH : zHy l R K ph c0 s0 d M q.2.2.2) (hdg : decode cc pc = .ok (.ifCond .le off, len)) (hck : zokI oc nm ret pc op nx tg r (.ifCond .le off) len = true) (hst : zstep ph (zEm ph d) op nx tg r L st M = some (.inl q)) (hk : ∀ gx, zGo p l e R s m args below meth c Q K ph c0 s0 (gs ++ gx) q.1 q.2.1 q.2.2.1 q.2.2.2) : zGo p l e R s m args below meth c Q K ph c0 s0 gs pc L st M := by
  simp only [zokI, Bool.and_eq_true, Bool.or_eq_true, beq_iff_eq, decide_eq_true_eq] at hck
  obtain ⟨⟨⟨rfl, rfl⟩, rfl⟩, ht⟩ := hck
  obtain ⟨⟨pc1, st1⟩, hw, rfl⟩ := zmap_inl (o := zF2_1 45 (pc + 3) tg st) (f := fun w => (w.1, L, w.2, M)) hst
  have hk0 := hk []
  rw [List.append_nil] at hk0
  exact zs_if_le hC hdg ht hw hk0
theorem zd_icmp_le {p : Program} {l : Launch} {e : Env} {R : Room} {s : State} {m : MethodId} {args : Array Value} {below : List Frame} {meth : Method} {c : Code} {Q : State → Prop} {K : zK} {ph : Bool} {c0 s0 : Int} {gs : zG} {nm : String} {cc : ByteArray} {pc : Nat} {L st : List zV} {M : zM} {d oc op nx tg len : Nat} {ret : Option FieldType} {r : List Int} {q : zC} {off : Int} (hC : zCtx K (zow oc) nm cc p s m args meth c) (hH : zHy l R K ph c0 s0 d M q.2.2.2) (hdg : decode cc pc = .ok (.if_icmp .le off, len)) (hck : zokI oc nm ret pc op nx tg r (.if_icmp .le off) len = true) (hst : zstep ph (zEm ph d) op nx tg r L st M = some (.inl q)) (hk : ∀ gx, zGo p l e R s m args below meth c Q K ph c0 s0 (gs ++ gx) q.1 q.2.1 q.2.2.1 q.2.2.2) : zGo p l e R s m args below meth c Q K ph c0 s0 gs pc L st M := by
  simp only [zokI, Bool.and_eq_true, Bool.or_eq_true, beq_iff_eq, decide_eq_true_eq] at hck
  obtain ⟨⟨⟨rfl, rfl⟩, rfl⟩, ht⟩ := hck
  obtain ⟨⟨pc1, st1⟩, hw, rfl⟩ := zmap_inl (o := zF2_2 51 (pc + 3) tg st) (f := fun w => (w.1, L, w.2, M)) hst
  have hk0 := hk []
  rw [List.append_nil] at hk0
  exact zs_icmp_le hC hdg ht hw hk0
theorem zd_acmp_eq {p : Program} {l : Launch} {e : Env} {R : Room} {s : State} {m : MethodId} {args : Array Value} {below : List Frame} {meth : Method} {c : Code} {Q : State → Prop} {K : zK} {ph : Bool} {c0 s0 : Int} {gs : zG} {nm : String} {cc : ByteArray} {pc : Nat} {L st : List zV} {M : zM} {d oc op nx tg len : Nat} {ret : Option FieldType} {r : List Int} {q : zC} {off : Int} (hC : zCtx K (zow oc) nm cc p s m args meth c) (hH : zHy l R K ph c0 s0 d M q.2.2.2) (hdg : decode cc pc = .ok (.if_acmp .eq off, len)) (hck : zokI oc nm ret pc op nx tg r (.if_acmp .eq off) len = true) (hst : zstep ph (zEm ph d) op nx tg r L st M = some (.inl q)) (hk : ∀ gx, zGo p l e R s m args below meth c Q K ph c0 s0 (gs ++ gx) q.1 q.2.1 q.2.2.1 q.2.2.2) : zGo p l e R s m args below meth c Q K ph c0 s0 gs pc L st M := by
  simp only [zokI, Bool.and_eq_true, Bool.or_eq_true, beq_iff_eq, decide_eq_true_eq] at hck
  obtain ⟨⟨⟨rfl, rfl⟩, rfl⟩, ht⟩ := hck
  obtain ⟨⟨pc1, st1⟩, hw, rfl⟩ := zmap_inl (o := zF2_e 53 (pc + 3) tg st) (f := fun w => (w.1, L, w.2, M)) hst
  have hk0 := hk []
  rw [List.append_nil] at hk0
  exact zs_acmp_eq hC hdg ht hw hk0
theorem zd_acmp_ne {p : Program} {l : Launch} {e : Env} {R : Room} {s : State} {m : MethodId} {args : Array Value} {below : List Frame} {meth : Method} {c : Code} {Q : State → Prop} {K : zK} {ph : Bool} {c0 s0 : Int} {gs : zG} {nm : String} {cc : ByteArray} {pc : Nat} {L st : List zV} {M : zM} {d oc op nx tg len : Nat} {ret : Option FieldType} {r : List Int} {q : zC} {off : Int} (hC : zCtx K (zow oc) nm cc p s m args meth c) (hH : zHy l R K ph c0 s0 d M q.2.2.2) (hdg : decode cc pc = .ok (.if_acmp .ne off, len)) (hck : zokI oc nm ret pc op nx tg r (.if_acmp .ne off) len = true) (hst : zstep ph (zEm ph d) op nx tg r L st M = some (.inl q)) (hk : ∀ gx, zGo p l e R s m args below meth c Q K ph c0 s0 (gs ++ gx) q.1 q.2.1 q.2.2.1 q.2.2.2) : zGo p l e R s m args below meth c Q K ph c0 s0 gs pc L st M := by
  simp only [zokI, Bool.and_eq_true, Bool.or_eq_true, beq_iff_eq, decide_eq_true_eq] at hck
  obtain ⟨⟨⟨rfl, rfl⟩, rfl⟩, ht⟩ := hck
  obtain ⟨⟨pc1, st1⟩, hw, rfl⟩ := zmap_inl (o := zF2_e 54 (pc + 3) tg st) (f := fun w => (w.1, L, w.2, M)) hst
  have hk0 := hk []
  rw [List.append_nil] at hk0
  exact zs_acmp_ne hC hdg ht hw hk0
theorem zd_goto {p : Program} {l : Launch} {e : Env} {R : Room} {s : State} {m : MethodId} {args : Array Value} {below : List Frame} {meth : Method} {c : Code} {Q : State → Prop} {K : zK} {ph : Bool} {c0 s0 : Int} {gs : zG} {nm : String} {cc : ByteArray} {pc : Nat} {L st : List zV} {M : zM} {d oc op nx tg len : Nat} {ret : Option FieldType} {r : List Int} {q : zC} {off : Int} (hC : zCtx K (zow oc) nm cc p s m args meth c) (hH : zHy l R K ph c0 s0 d M q.2.2.2) (hdg : decode cc pc = .ok (.goto off, len)) (hck : zokI oc nm ret pc op nx tg r (.goto off) len = true) (hst : zstep ph (zEm ph d) op nx tg r L st M = some (.inl q)) (hk : ∀ gx, zGo p l e R s m args below meth c Q K ph c0 s0 (gs ++ gx) q.1 q.2.1 q.2.2.1 q.2.2.2) : zGo p l e R s m args below meth c Q K ph c0 s0 gs pc L st M := by
  simp only [zokI, Bool.and_eq_true, Bool.or_eq_true, beq_iff_eq, decide_eq_true_eq] at hck
  obtain ⟨⟨rfl, rfl⟩, ht⟩ := hck
  have hk0 := hk []
  rw [List.append_nil] at hk0
  cases hst
  exact zs_goto hC hdg ht hk0
theorem zd_ifnonnull {p : Program} {l : Launch} {e : Env} {R : Room} {s : State} {m : MethodId} {args : Array Value} {below : List Frame} {meth : Method} {c : Code} {Q : State → Prop} {K : zK} {ph : Bool} {c0 s0 : Int} {gs : zG} {nm : String} {cc : ByteArray} {pc : Nat} {L st : List zV} {M : zM} {d oc op nx tg len : Nat} {ret : Option FieldType} {r : List Int} {q : zC} {off : Int} (hC : zCtx K (zow oc) nm cc p s m args meth c) (hH : zHy l R K ph c0 s0 d M q.2.2.2) (hdg : decode cc pc = .ok (.ifnonnull off, len)) (hck : zokI oc nm ret pc op nx tg r (.ifnonnull off) len = true) (hst : zstep ph (zEm ph d) op nx tg r L st M = some (.inl q)) (hk : ∀ gx, zGo p l e R s m args below meth c Q K ph c0 s0 (gs ++ gx) q.1 q.2.1 q.2.2.1 q.2.2.2) : zGo p l e R s m args below meth c Q K ph c0 s0 gs pc L st M := by
  simp only [zokI, Bool.and_eq_true, Bool.or_eq_true, beq_iff_eq, decide_eq_true_eq] at hck
  obtain ⟨⟨rfl, rfl⟩, ht⟩ := hck
  obtain ⟨⟨pc1, st1⟩, hw, rfl⟩ := zmap_inl (o := zF2_n tg st) (f := fun w => (w.1, L, w.2, M)) hst
  have hk0 := hk []
  rw [List.append_nil] at hk0
  exact zs_ifnonnull hC hdg ht hw hk0
theorem zd_tsw {p : Program} {l : Launch} {e : Env} {R : Room} {s : State} {m : MethodId} {args : Array Value} {below : List Frame} {meth : Method} {c : Code} {Q : State → Prop} {K : zK} {ph : Bool} {c0 s0 : Int} {gs : zG} {nm : String} {cc : ByteArray} {pc : Nat} {L st : List zV} {M : zM} {d oc op nx tg len : Nat} {ret : Option FieldType} {r : List Int} {q : zC} {dflt lo hi : Int} {offs : Array Int} (hC : zCtx K (zow oc) nm cc p s m args meth c) (hH : zHy l R K ph c0 s0 d M q.2.2.2) (hdg : decode cc pc = .ok (.tableswitch dflt lo hi offs, len)) (hck : zokI oc nm ret pc op nx tg r (.tableswitch dflt lo hi offs) len = true) (hst : zstep ph (zEm ph d) op nx tg r L st M = some (.inl q)) (hk : ∀ gx, zGo p l e R s m args below meth c Q K ph c0 s0 (gs ++ gx) q.1 q.2.1 q.2.2.1 q.2.2.2) : zGo p l e R s m args below meth c Q K ph c0 s0 gs pc L st M := by
  simp only [zokI, Bool.and_eq_true, Bool.or_eq_true, beq_iff_eq, decide_eq_true_eq] at hck
  obtain ⟨⟨⟨⟨rfl, ht⟩, rfl⟩, hpos⟩, hhi⟩ := hck
  obtain ⟨⟨pc1, st1⟩, hw, rfl⟩ := zmap_inl (o := zF2_t tg (lo :: offs.toList.map (fun o => (pc : Int) + o)) st) (f := fun w => (w.1, L, w.2, M)) hst
  have hk0 := hk []
  rw [List.append_nil] at hk0
  exact zs_tsw hC hdg ht rfl (fun t h => of_decide_eq_true (List.all_eq_true.mp hpos t h)) hhi hw hk0
theorem zd_lsw {p : Program} {l : Launch} {e : Env} {R : Room} {s : State} {m : MethodId} {args : Array Value} {below : List Frame} {meth : Method} {c : Code} {Q : State → Prop} {K : zK} {ph : Bool} {c0 s0 : Int} {gs : zG} {nm : String} {cc : ByteArray} {pc : Nat} {L st : List zV} {M : zM} {d oc op nx tg len : Nat} {ret : Option FieldType} {r : List Int} {q : zC} {dflt : Int} {ps : Array (Int × Int)} (hC : zCtx K (zow oc) nm cc p s m args meth c) (hH : zHy l R K ph c0 s0 d M q.2.2.2) (hdg : decode cc pc = .ok (.lookupswitch dflt ps, len)) (hck : zokI oc nm ret pc op nx tg r (.lookupswitch dflt ps) len = true) (hst : zstep ph (zEm ph d) op nx tg r L st M = some (.inl q)) (hk : ∀ gx, zGo p l e R s m args below meth c Q K ph c0 s0 (gs ++ gx) q.1 q.2.1 q.2.2.1 q.2.2.2) : zGo p l e R s m args below meth c Q K ph c0 s0 gs pc L st M := by
  rw [show zokI oc nm ret pc op nx tg r (.lookupswitch dflt ps) len = (op == 57 && (ps.toList.zip (ps.toList.drop 1)).all (fun (a, next) => a.1 < next.1) && decide ((pc : Int) + dflt = (tg : Int)) && ps.toList.all (fun q => decide (0 ≤ (pc : Int) + q.2)) && decide (r = zlswr pc ps.toList)) from rfl, Bool.and_eq_true, Bool.and_eq_true, Bool.and_eq_true, Bool.and_eq_true, beq_iff_eq, decide_eq_true_eq, decide_eq_true_eq] at hck
  obtain ⟨⟨⟨⟨rfl, hp⟩, ht⟩, hpos⟩, rfl⟩ := hck
  obtain ⟨⟨pc1, st1⟩, hw, rfl⟩ := zmap_inl (o := zF2_l tg (zlswr pc ps.toList) st) (f := fun w => (w.1, L, w.2, M)) hst
  have hk0 := hk []
  rw [List.append_nil] at hk0
  exact zs_lsw hC hdg hp ht (fun t h => of_decide_eq_true (List.all_eq_true.mp hpos t h)) hw hk0
theorem zstep_f {ph : Bool} {cl : Nat → List zV → zM → zO} {op nx tg : Nat} {r : List Int} {L st : List zV} {M : zM} (h : 60 ≤ op ∧ op < 70) : zstep ph cl op nx tg r L st M = (zF3 ph op r st M).map fun q => .inl (nx, L, q.1, q.2) := by
  unfold zstep
  rw [if_neg (by omega), if_neg (by omega), if_neg (by omega), if_pos (by omega)]
theorem zlkw0 {c i j : Nat} {a : Int} {r : vw_C} (h : zlook c i = some (0, a, j)) (hc : zcls[a.toNat]? = some r) : Cond.fieldLink (zow c) i (r.2.1 j).1 (r.2.1 j).2.1 (r.2.1 j).2.2.1 ∈ zwl := by
  obtain ⟨k, hk⟩ := zlook_ok h
  have e : zlw (zow c) (i, 0, a, j, k) = (match zcls[a.toNat]? with
    | some r => Cond.fieldLink (zow c) i (r.2.1 j).1 (r.2.1 j).2.1 (r.2.1 j).2.2.1
    | none => Cond.tt) := rfl
  dsimp only at hk
  rw [e, hc] at hk
  exact hk
theorem zlkw6 {c i b : Nat} {a : Int} {q : String × String × String} (h : zlook c i = some (6, a, b)) (hc : zspl[a.toNat]? = some q) : Cond.fieldLink (zow c) i q.1 q.2.1 q.2.2 ∈ zwl := by
  obtain ⟨k, hk⟩ := zlook_ok h
  have e : zlw (zow c) (i, 6, a, b, k) = (match zspl[a.toNat]? with
    | some q => Cond.fieldLink (zow c) i q.1 q.2.1 q.2.2
    | none => Cond.tt) := rfl
  dsimp only at hk
  rw [e, hc] at hk
  exact hk
theorem zlkw7 {c i b : Nat} {a : Int} {q : String × String × String} (h : zlook c i = some (7, a, b)) (hc : zspl[a.toNat]? = some q) : Cond.fieldLinkNest (zow c) i q.1 q.2.1 q.2.2 "ClogVotes" ∈ zwl := by
  obtain ⟨k, hk⟩ := zlook_ok h
  have e : zlw (zow c) (i, 7, a, b, k) = (match zspl[a.toNat]? with
    | some q => Cond.fieldLinkNest (zow c) i q.1 q.2.1 q.2.2 "ClogVotes"
    | none => Cond.tt) := rfl
  dsimp only at hk
  rw [e, hc] at hk
  exact hk
theorem zlkw8 {c i b : Nat} {a : Int} {r : vw_C} (h : zlook c i = some (8, a, b)) (hc : zcls[a.toNat]? = some r) : Cond.classLink (zow c) i r.1 ∈ zwl := by
  obtain ⟨k, hk⟩ := zlook_ok h
  have e : zlw (zow c) (i, 8, a, b, k) = (match zcls[a.toNat]? with
    | some r => Cond.classLink (zow c) i r.1
    | none => Cond.tt) := rfl
  dsimp only at hk
  rw [e, hc] at hk
  exact hk
theorem zlkw10 {c i b : Nat} {a : Int} {y : MethodName} (h : zlook c i = some (10, a, b)) (hc : ziml[a.toNat]? = some y) : Cond.methodLink (zow c) i y ∈ zwl := by
  obtain ⟨k, hk⟩ := zlook_ok h
  have e : zlw (zow c) (i, 10, a, b, k) = (match ziml[a.toNat]? with
    | some q => Cond.methodLink (zow c) i q
    | none => Cond.tt) := rfl
  dsimp only at hk
  rw [e, hc] at hk
  exact hk
theorem zd_getfield {p : Program} {l : Launch} {e : Env} {R : Room} {s : State} {m : MethodId} {args : Array Value} {below : List Frame} {meth : Method} {c : Code} {Q : State → Prop} {K : zK} {ph : Bool} {c0 s0 : Int} {gs : zG} {nm : String} {cc : ByteArray} {pc : Nat} {L st : List zV} {M : zM} {d oc op nx tg len : Nat} {ret : Option FieldType} {r : List Int} {q : zC} {i : Nat} (hC : zCtx K (zow oc) nm cc p s m args meth c) (hH : zHy l R K ph c0 s0 d M q.2.2.2) (hdg : decode cc pc = .ok (.getfield i, len)) (hck : zokI oc nm ret pc op nx tg r (.getfield i) len = true) (hst : zstep ph (zEm ph d) op nx tg r L st M = some (.inl q)) (hk : ∀ gx, zGo p l e R s m args below meth c Q K ph c0 s0 (gs ++ gx) q.1 q.2.1 q.2.2.1 q.2.2.2) : zGo p l e R s m args below meth c Q K ph c0 s0 gs pc L st M := by
  simp only [zokI, Bool.and_eq_true, Bool.or_eq_true, beq_iff_eq, decide_eq_true_eq] at hck
  obtain ⟨⟨rfl, rfl⟩, hck⟩ := hck
  have hk0 := hk []
  rw [List.append_nil] at hk0
  unfold zkg at hck
  split at hck
  · rename_i a j hz
    split at hck
    · rename_i r' hr'
      simp only [zkf, Bool.and_eq_true, Bool.or_eq_true, bne_iff_ne, ne_eq, decide_eq_true_eq] at hck
      obtain ⟨⟨⟨⟨hj, h0, h1⟩, hop⟩, h62⟩, h64⟩ := hck
      rw [zstep_f ⟨by omega, by omega⟩] at hst
      obtain ⟨⟨st1, M1⟩, hw, rfl⟩ := zmap_inl (o := zF3 ph op r st M) (f := fun w => (_, L, w.1, w.2)) hst
      have hw2 : zF3_g ph op r st M = some (st1, M1) := by
        unfold zF3 at hw
        rw [if_pos (by omega)] at hw
        exact hw
      exact zs_getfield hC hdg hr' hj (zlkw0 hz hr') hop h0 h1 (fun z => by rcases h62 with h | h; exact absurd z h; exact h) (fun z => by rcases h64 with h | h; exact absurd z h; exact h) hw2 hk0
    · cases hck
  · rename_i a b hz
    simp only [Bool.and_eq_true, Bool.or_eq_true, beq_iff_eq, decide_eq_true_eq] at hck
    rcases hck with (⟨rfl, rfl⟩ | ⟨rfl, rfl⟩) | ⟨rfl, rfl⟩
    · have hst : ((zF3_s 98 st).map fun w => (w, M)).map (fun w => (Sum.inl (pc + 3, L, w.1, w.2) : zC ⊕ (zV × zM))) = some (.inl q) := hst
      rw [Option.map_map] at hst
      obtain ⟨st1, hw, rfl⟩ := zmap_inl (o := zF3_s 98 st) (f := fun w => (pc + 3, L, w, M)) hst
      exact zs_strval hC hdg (zlkw6 hz rfl) hw hk0
    · have hst : ((zF3_s 99 st).map fun w => (w, M)).map (fun w => (Sum.inl (pc + 3, L, w.1, w.2) : zC ⊕ (zV × zM))) = some (.inl q) := hst
      rw [Option.map_map] at hst
      obtain ⟨st1, hw, rfl⟩ := zmap_inl (o := zF3_s 99 st) (f := fun w => (pc + 3, L, w, M)) hst
      exact zs_strcod hC hdg (zlkw6 hz rfl) hw hk0
    · have hst : ((zF3_s 100 st).map fun w => (w, M)).map (fun w => (Sum.inl (pc + 3, L, w.1, w.2) : zC ⊕ (zV × zM))) = some (.inl q) := hst
      rw [Option.map_map] at hst
      obtain ⟨st1, hw, rfl⟩ := zmap_inl (o := zF3_s 100 st) (f := fun w => (pc + 3, L, w, M)) hst
      exact zs_wkey hC hdg (zlkw6 hz rfl) hw hk0
  · cases hck
theorem zd_putfield {p : Program} {l : Launch} {e : Env} {R : Room} {s : State} {m : MethodId} {args : Array Value} {below : List Frame} {meth : Method} {c : Code} {Q : State → Prop} {K : zK} {ph : Bool} {c0 s0 : Int} {gs : zG} {nm : String} {cc : ByteArray} {pc : Nat} {L st : List zV} {M : zM} {d oc op nx tg len : Nat} {ret : Option FieldType} {r : List Int} {q : zC} {i : Nat} (hC : zCtx K (zow oc) nm cc p s m args meth c) (hH : zHy l R K ph c0 s0 d M q.2.2.2) (hdg : decode cc pc = .ok (.putfield i, len)) (hck : zokI oc nm ret pc op nx tg r (.putfield i) len = true) (hst : zstep ph (zEm ph d) op nx tg r L st M = some (.inl q)) (hk : ∀ gx, zGo p l e R s m args below meth c Q K ph c0 s0 (gs ++ gx) q.1 q.2.1 q.2.2.1 q.2.2.2) : zGo p l e R s m args below meth c Q K ph c0 s0 gs pc L st M := by
  simp only [zokI, Bool.and_eq_true, Bool.or_eq_true, beq_iff_eq, decide_eq_true_eq] at hck
  obtain ⟨⟨rfl, rfl⟩, hck⟩ := hck
  have hk0 := hk []
  rw [List.append_nil] at hk0
  unfold zkp at hck
  split at hck
  · rename_i a j hz
    split at hck
    · rename_i r' hr'
      simp only [zkf, Bool.and_eq_true, Bool.or_eq_true, bne_iff_ne, ne_eq, decide_eq_true_eq] at hck
      obtain ⟨⟨⟨⟨⟨⟨⟨⟨⟨hj, hbig⟩, h0, h1⟩, hop⟩, hfin⟩, h67⟩, h69⟩, h65⟩, h66⟩, href⟩ := hck
      rw [zstep_f ⟨by omega, by omega⟩] at hst
      obtain ⟨⟨st1, M1⟩, hw, rfl⟩ := zmap_inl (o := zF3 ph op r st M) (f := fun w => (_, L, w.1, w.2)) hst
      have hw2 : zF3_p ph op r st M = some (st1, M1) := by
        unfold zF3 at hw
        rw [if_neg (by omega), if_pos (by omega)] at hw
        exact hw
      refine zs_putfield hC hdg hr' hj (zlkw0 hz hr') ?_ hbig hop h0 h1 (fun z => by rcases h67 with h | h; exact absurd z h; exact h) (fun z => by rcases h69 with h | h; exact absurd z h; exact h) (fun z => ?_) (fun z => by rcases h66 with h | h; exact absurd z h; exact h) (fun z => ?_) hw2 hk0
      · rcases hfin with h | ⟨⟨h, h'⟩, h''⟩
        · exact Or.inl h
        · exact Or.inr ⟨h, h', h''⟩
      · rcases h65 with h | h
        · exact absurd z h
        · rcases h with (h | h) | h
          · exact Or.inl h
          · exact Or.inr (Or.inl h)
          · exact Or.inr (Or.inr h)
      · rcases href with h | h
        · omega
        · unfold zkt at h
          split at h
          · rename_i n hn; exact Or.inl ⟨n, hn⟩
          · rename_i n hn; exact Or.inr ⟨n, hn⟩
          · cases h
    · cases hck
  · cases hck
theorem zd_getstatic {p : Program} {l : Launch} {e : Env} {R : Room} {s : State} {m : MethodId} {args : Array Value} {below : List Frame} {meth : Method} {c : Code} {Q : State → Prop} {K : zK} {ph : Bool} {c0 s0 : Int} {gs : zG} {nm : String} {cc : ByteArray} {pc : Nat} {L st : List zV} {M : zM} {d oc op nx tg len : Nat} {ret : Option FieldType} {r : List Int} {q : zC} {i : Nat} (hC : zCtx K (zow oc) nm cc p s m args meth c) (hH : zHy l R K ph c0 s0 d M q.2.2.2) (hdg : decode cc pc = .ok (.getstatic i, len)) (hck : zokI oc nm ret pc op nx tg r (.getstatic i) len = true) (hst : zstep ph (zEm ph d) op nx tg r L st M = some (.inl q)) (hk : ∀ gx, zGo p l e R s m args below meth c Q K ph c0 s0 (gs ++ gx) q.1 q.2.1 q.2.2.1 q.2.2.2) : zGo p l e R s m args below meth c Q K ph c0 s0 gs pc L st M := by
  simp only [zokI, Bool.and_eq_true, Bool.or_eq_true, beq_iff_eq, decide_eq_true_eq] at hck
  obtain ⟨⟨rfl, rfl⟩, hck⟩ := hck
  have hk0 := hk []
  rw [List.append_nil] at hk0
  unfold zkst at hck
  split at hck
  · rename_i a b hz
    simp only [Bool.and_eq_true, beq_iff_eq, decide_eq_true_eq] at hck
    obtain ⟨⟨rfl, hen⟩, rfl⟩ := hck
    obtain ⟨k, hw⟩ := zlook_ok hz
    cases hst
    exact zs_getenum hC hdg hen hw hk0
  · rename_i a b hz
    simp only [Bool.and_eq_true, Bool.or_eq_true, beq_iff_eq, decide_eq_true_eq] at hck
    rcases hck with ((((⟨⟨rfl, rfl⟩, rfl⟩ | ⟨⟨rfl, rfl⟩, rfl⟩) | ⟨⟨rfl, rfl⟩, rfl⟩) | ⟨⟨rfl, rfl⟩, rfl⟩) | ⟨⟨rfl, rfl⟩, rfl⟩) | ⟨rfl, rfl⟩
    · cases hst; exact zs_getsw hC hdg (zlkw6 hz rfl) hk0
    · cases hst; exact zs_getwords hC hdg (zlkw6 hz rfl) hk0
    · cases hst; exact zs_getdig hC hdg (Or.inl ⟨rfl, rfl⟩) (zlkw6 hz rfl) hk0
    · cases hst; exact zs_getdig hC hdg (Or.inr ⟨rfl, rfl⟩) (zlkw6 hz rfl) hk0
    · cases hst; exact zs_getcs hC hdg (zlkw6 hz rfl) hk0
    · cases hst; exact zs_getfmt hC hdg (zlkw6 hz rfl) hk0
  · rename_i a b hz
    simp only [Bool.and_eq_true, beq_iff_eq, decide_eq_true_eq] at hck
    obtain ⟨⟨rfl, rfl⟩, rfl⟩ := hck
    cases hst
    exact zs_getwordsN hC hdg (zlkw7 hz rfl) hk0
  · cases hck
theorem zd_alen {p : Program} {l : Launch} {e : Env} {R : Room} {s : State} {m : MethodId} {args : Array Value} {below : List Frame} {meth : Method} {c : Code} {Q : State → Prop} {K : zK} {ph : Bool} {c0 s0 : Int} {gs : zG} {nm : String} {cc : ByteArray} {pc : Nat} {L st : List zV} {M : zM} {d oc op nx tg len : Nat} {ret : Option FieldType} {r : List Int} {q : zC} (hC : zCtx K (zow oc) nm cc p s m args meth c) (hH : zHy l R K ph c0 s0 d M q.2.2.2) (hdg : decode cc pc = .ok (.arraylength, len)) (hck : zokI oc nm ret pc op nx tg r (.arraylength) len = true) (hst : zstep ph (zEm ph d) op nx tg r L st M = some (.inl q)) (hk : ∀ gx, zGo p l e R s m args below meth c Q K ph c0 s0 (gs ++ gx) q.1 q.2.1 q.2.2.1 q.2.2.2) : zGo p l e R s m args below meth c Q K ph c0 s0 gs pc L st M := by
  simp only [zokI, Bool.and_eq_true, Bool.or_eq_true, beq_iff_eq, decide_eq_true_eq] at hck
  obtain ⟨⟨rfl, rfl⟩, rfl⟩ := hck
  have hk0 := hk []
  rw [List.append_nil] at hk0
  have hst : ((zF4_n st).map fun w => (w, M)).map (fun w => (Sum.inl (pc + 1, L, w.1, w.2) : zC ⊕ (zV × zM))) = some (.inl q) := hst
  rw [Option.map_map] at hst
  obtain ⟨st1, hw, rfl⟩ := zmap_inl (o := zF4_n st) (f := fun w => (pc + 1, L, w, M)) hst
  exact zs_alen hC hdg hw hk0
theorem zd_iaload {p : Program} {l : Launch} {e : Env} {R : Room} {s : State} {m : MethodId} {args : Array Value} {below : List Frame} {meth : Method} {c : Code} {Q : State → Prop} {K : zK} {ph : Bool} {c0 s0 : Int} {gs : zG} {nm : String} {cc : ByteArray} {pc : Nat} {L st : List zV} {M : zM} {d oc op nx tg len : Nat} {ret : Option FieldType} {r : List Int} {q : zC} (hC : zCtx K (zow oc) nm cc p s m args meth c) (hH : zHy l R K ph c0 s0 d M q.2.2.2) (hdg : decode cc pc = .ok (.iaload, len)) (hck : zokI oc nm ret pc op nx tg r (.iaload) len = true) (hst : zstep ph (zEm ph d) op nx tg r L st M = some (.inl q)) (hk : ∀ gx, zGo p l e R s m args below meth c Q K ph c0 s0 (gs ++ gx) q.1 q.2.1 q.2.2.1 q.2.2.2) : zGo p l e R s m args below meth c Q K ph c0 s0 gs pc L st M := by
  simp only [zokI, Bool.and_eq_true, Bool.or_eq_true, beq_iff_eq, decide_eq_true_eq] at hck
  obtain ⟨⟨rfl, rfl⟩, rfl⟩ := hck
  have hk0 := hk []
  rw [List.append_nil] at hk0
  have hst : ((zF4_l 85 st M).map fun w => (w, M)).map (fun w => (Sum.inl (pc + 1, L, w.1, w.2) : zC ⊕ (zV × zM))) = some (.inl q) := hst
  rw [Option.map_map] at hst
  obtain ⟨st1, hw, rfl⟩ := zmap_inl (o := zF4_l 85 st M) (f := fun w => (pc + 1, L, w, M)) hst
  exact zs_iaload hC hdg hw hk0
theorem zd_laload {p : Program} {l : Launch} {e : Env} {R : Room} {s : State} {m : MethodId} {args : Array Value} {below : List Frame} {meth : Method} {c : Code} {Q : State → Prop} {K : zK} {ph : Bool} {c0 s0 : Int} {gs : zG} {nm : String} {cc : ByteArray} {pc : Nat} {L st : List zV} {M : zM} {d oc op nx tg len : Nat} {ret : Option FieldType} {r : List Int} {q : zC} (hC : zCtx K (zow oc) nm cc p s m args meth c) (hH : zHy l R K ph c0 s0 d M q.2.2.2) (hdg : decode cc pc = .ok (.laload, len)) (hck : zokI oc nm ret pc op nx tg r (.laload) len = true) (hst : zstep ph (zEm ph d) op nx tg r L st M = some (.inl q)) (hk : ∀ gx, zGo p l e R s m args below meth c Q K ph c0 s0 (gs ++ gx) q.1 q.2.1 q.2.2.1 q.2.2.2) : zGo p l e R s m args below meth c Q K ph c0 s0 gs pc L st M := by
  simp only [zokI, Bool.and_eq_true, Bool.or_eq_true, beq_iff_eq, decide_eq_true_eq] at hck
  obtain ⟨⟨rfl, rfl⟩, rfl⟩ := hck
  have hk0 := hk []
  rw [List.append_nil] at hk0
  have hst : ((zF4_l 86 st M).map fun w => (w, M)).map (fun w => (Sum.inl (pc + 1, L, w.1, w.2) : zC ⊕ (zV × zM))) = some (.inl q) := hst
  rw [Option.map_map] at hst
  obtain ⟨st1, hw, rfl⟩ := zmap_inl (o := zF4_l 86 st M) (f := fun w => (pc + 1, L, w, M)) hst
  exact zs_laload hC hdg hw hk0
theorem zd_baload {p : Program} {l : Launch} {e : Env} {R : Room} {s : State} {m : MethodId} {args : Array Value} {below : List Frame} {meth : Method} {c : Code} {Q : State → Prop} {K : zK} {ph : Bool} {c0 s0 : Int} {gs : zG} {nm : String} {cc : ByteArray} {pc : Nat} {L st : List zV} {M : zM} {d oc op nx tg len : Nat} {ret : Option FieldType} {r : List Int} {q : zC} (hC : zCtx K (zow oc) nm cc p s m args meth c) (hH : zHy l R K ph c0 s0 d M q.2.2.2) (hdg : decode cc pc = .ok (.baload, len)) (hck : zokI oc nm ret pc op nx tg r (.baload) len = true) (hst : zstep ph (zEm ph d) op nx tg r L st M = some (.inl q)) (hk : ∀ gx, zGo p l e R s m args below meth c Q K ph c0 s0 (gs ++ gx) q.1 q.2.1 q.2.2.1 q.2.2.2) : zGo p l e R s m args below meth c Q K ph c0 s0 gs pc L st M := by
  simp only [zokI, Bool.and_eq_true, Bool.or_eq_true, beq_iff_eq, decide_eq_true_eq] at hck
  obtain ⟨⟨rfl, rfl⟩, rfl⟩ := hck
  have hk0 := hk []
  rw [List.append_nil] at hk0
  have hst : ((zF4_l 87 st M).map fun w => (w, M)).map (fun w => (Sum.inl (pc + 1, L, w.1, w.2) : zC ⊕ (zV × zM))) = some (.inl q) := hst
  rw [Option.map_map] at hst
  obtain ⟨st1, hw, rfl⟩ := zmap_inl (o := zF4_l 87 st M) (f := fun w => (pc + 1, L, w, M)) hst
  exact zs_baload hC hdg hw hk0
theorem zd_aaload {p : Program} {l : Launch} {e : Env} {R : Room} {s : State} {m : MethodId} {args : Array Value} {below : List Frame} {meth : Method} {c : Code} {Q : State → Prop} {K : zK} {ph : Bool} {c0 s0 : Int} {gs : zG} {nm : String} {cc : ByteArray} {pc : Nat} {L st : List zV} {M : zM} {d oc op nx tg len : Nat} {ret : Option FieldType} {r : List Int} {q : zC} (hC : zCtx K (zow oc) nm cc p s m args meth c) (hH : zHy l R K ph c0 s0 d M q.2.2.2) (hdg : decode cc pc = .ok (.aaload, len)) (hck : zokI oc nm ret pc op nx tg r (.aaload) len = true) (hst : zstep ph (zEm ph d) op nx tg r L st M = some (.inl q)) (hk : ∀ gx, zGo p l e R s m args below meth c Q K ph c0 s0 (gs ++ gx) q.1 q.2.1 q.2.2.1 q.2.2.2) : zGo p l e R s m args below meth c Q K ph c0 s0 gs pc L st M := by
  simp only [zokI, Bool.and_eq_true, Bool.or_eq_true, beq_iff_eq, decide_eq_true_eq] at hck
  obtain ⟨⟨rfl, rfl⟩, rfl⟩ := hck
  have hk0 := hk []
  rw [List.append_nil] at hk0
  have hst : ((zF4_l 88 st M).map fun w => (w, M)).map (fun w => (Sum.inl (pc + 1, L, w.1, w.2) : zC ⊕ (zV × zM))) = some (.inl q) := hst
  rw [Option.map_map] at hst
  obtain ⟨st1, hw, rfl⟩ := zmap_inl (o := zF4_l 88 st M) (f := fun w => (pc + 1, L, w, M)) hst
  exact zs_aaload hC hdg hw hk0
theorem zd_iastore {p : Program} {l : Launch} {e : Env} {R : Room} {s : State} {m : MethodId} {args : Array Value} {below : List Frame} {meth : Method} {c : Code} {Q : State → Prop} {K : zK} {ph : Bool} {c0 s0 : Int} {gs : zG} {nm : String} {cc : ByteArray} {pc : Nat} {L st : List zV} {M : zM} {d oc op nx tg len : Nat} {ret : Option FieldType} {r : List Int} {q : zC} (hC : zCtx K (zow oc) nm cc p s m args meth c) (hH : zHy l R K ph c0 s0 d M q.2.2.2) (hdg : decode cc pc = .ok (.iastore, len)) (hck : zokI oc nm ret pc op nx tg r (.iastore) len = true) (hst : zstep ph (zEm ph d) op nx tg r L st M = some (.inl q)) (hk : ∀ gx, zGo p l e R s m args below meth c Q K ph c0 s0 (gs ++ gx) q.1 q.2.1 q.2.2.1 q.2.2.2) : zGo p l e R s m args below meth c Q K ph c0 s0 gs pc L st M := by
  simp only [zokI, Bool.and_eq_true, Bool.or_eq_true, beq_iff_eq, decide_eq_true_eq] at hck
  obtain ⟨⟨rfl, rfl⟩, rfl⟩ := hck
  have hk0 := hk []
  rw [List.append_nil] at hk0
  obtain ⟨⟨st1, M1⟩, hw, rfl⟩ := zmap_inl (o := zF4_s 89 st M) (f := fun w => (_, L, w.1, w.2)) hst
  exact zs_store (op := 89) hC (Or.inl ⟨rfl, hdg⟩) hw hk0
theorem zd_lastore {p : Program} {l : Launch} {e : Env} {R : Room} {s : State} {m : MethodId} {args : Array Value} {below : List Frame} {meth : Method} {c : Code} {Q : State → Prop} {K : zK} {ph : Bool} {c0 s0 : Int} {gs : zG} {nm : String} {cc : ByteArray} {pc : Nat} {L st : List zV} {M : zM} {d oc op nx tg len : Nat} {ret : Option FieldType} {r : List Int} {q : zC} (hC : zCtx K (zow oc) nm cc p s m args meth c) (hH : zHy l R K ph c0 s0 d M q.2.2.2) (hdg : decode cc pc = .ok (.lastore, len)) (hck : zokI oc nm ret pc op nx tg r (.lastore) len = true) (hst : zstep ph (zEm ph d) op nx tg r L st M = some (.inl q)) (hk : ∀ gx, zGo p l e R s m args below meth c Q K ph c0 s0 (gs ++ gx) q.1 q.2.1 q.2.2.1 q.2.2.2) : zGo p l e R s m args below meth c Q K ph c0 s0 gs pc L st M := by
  simp only [zokI, Bool.and_eq_true, Bool.or_eq_true, beq_iff_eq, decide_eq_true_eq] at hck
  obtain ⟨⟨rfl, rfl⟩, rfl⟩ := hck
  have hk0 := hk []
  rw [List.append_nil] at hk0
  obtain ⟨⟨st1, M1⟩, hw, rfl⟩ := zmap_inl (o := zF4_s 90 st M) (f := fun w => (_, L, w.1, w.2)) hst
  exact zs_store (op := 90) hC (Or.inr (Or.inl ⟨rfl, hdg⟩)) hw hk0
theorem zd_bastore {p : Program} {l : Launch} {e : Env} {R : Room} {s : State} {m : MethodId} {args : Array Value} {below : List Frame} {meth : Method} {c : Code} {Q : State → Prop} {K : zK} {ph : Bool} {c0 s0 : Int} {gs : zG} {nm : String} {cc : ByteArray} {pc : Nat} {L st : List zV} {M : zM} {d oc op nx tg len : Nat} {ret : Option FieldType} {r : List Int} {q : zC} (hC : zCtx K (zow oc) nm cc p s m args meth c) (hH : zHy l R K ph c0 s0 d M q.2.2.2) (hdg : decode cc pc = .ok (.bastore, len)) (hck : zokI oc nm ret pc op nx tg r (.bastore) len = true) (hst : zstep ph (zEm ph d) op nx tg r L st M = some (.inl q)) (hk : ∀ gx, zGo p l e R s m args below meth c Q K ph c0 s0 (gs ++ gx) q.1 q.2.1 q.2.2.1 q.2.2.2) : zGo p l e R s m args below meth c Q K ph c0 s0 gs pc L st M := by
  simp only [zokI, Bool.and_eq_true, Bool.or_eq_true, beq_iff_eq, decide_eq_true_eq] at hck
  obtain ⟨⟨rfl, rfl⟩, rfl⟩ := hck
  have hk0 := hk []
  rw [List.append_nil] at hk0
  obtain ⟨⟨st1, M1⟩, hw, rfl⟩ := zmap_inl (o := zF4_s 91 st M) (f := fun w => (_, L, w.1, w.2)) hst
  exact zs_store (op := 91) hC (Or.inr (Or.inr (Or.inl ⟨rfl, hdg⟩))) hw hk0
theorem zd_aastore {p : Program} {l : Launch} {e : Env} {R : Room} {s : State} {m : MethodId} {args : Array Value} {below : List Frame} {meth : Method} {c : Code} {Q : State → Prop} {K : zK} {ph : Bool} {c0 s0 : Int} {gs : zG} {nm : String} {cc : ByteArray} {pc : Nat} {L st : List zV} {M : zM} {d oc op nx tg len : Nat} {ret : Option FieldType} {r : List Int} {q : zC} (hC : zCtx K (zow oc) nm cc p s m args meth c) (hH : zHy l R K ph c0 s0 d M q.2.2.2) (hdg : decode cc pc = .ok (.aastore, len)) (hck : zokI oc nm ret pc op nx tg r (.aastore) len = true) (hst : zstep ph (zEm ph d) op nx tg r L st M = some (.inl q)) (hk : ∀ gx, zGo p l e R s m args below meth c Q K ph c0 s0 (gs ++ gx) q.1 q.2.1 q.2.2.1 q.2.2.2) : zGo p l e R s m args below meth c Q K ph c0 s0 gs pc L st M := by
  simp only [zokI, Bool.and_eq_true, Bool.or_eq_true, beq_iff_eq, decide_eq_true_eq] at hck
  obtain ⟨⟨rfl, rfl⟩, rfl⟩ := hck
  have hk0 := hk []
  rw [List.append_nil] at hk0
  obtain ⟨⟨st1, M1⟩, hw, rfl⟩ := zmap_inl (o := zF4_s 92 st M) (f := fun w => (_, L, w.1, w.2)) hst
  exact zs_store (op := 92) hC (Or.inr (Or.inr (Or.inr ⟨rfl, hdg⟩))) hw hk0
set_option maxRecDepth 20000 in
theorem zarw : (Cond.arrayClass (Op.newarray.typeOf .int) ∈ zwl ∧ Cond.arrayClass (Op.newarray.typeOf .long) ∈ zwl) ∧ (Cond.arrayClass (Op.newarray.typeOf .boolean) ∈ zwl ∧ Cond.arrayClass (Op.newarray.typeOf .byte) ∈ zwl) ∧ Cond.arrayOver (.object (zAel 14)) ∈ zwl ∧ Cond.arrayOver (.object (zAel 15)) ∈ zwl :=
  ⟨⟨zwl_of (by decide +kernel) rfl, zwl_of (by decide +kernel) rfl⟩, ⟨zwl_of (by decide +kernel) rfl, zwl_of (by decide +kernel) rfl⟩, zwl_of (by decide +kernel) rfl, zwl_of (by decide +kernel) rfl⟩
theorem zd_na_int {p : Program} {l : Launch} {e : Env} {R : Room} {s : State} {m : MethodId} {args : Array Value} {below : List Frame} {meth : Method} {c : Code} {Q : State → Prop} {K : zK} {ph : Bool} {c0 s0 : Int} {gs : zG} {nm : String} {cc : ByteArray} {pc : Nat} {L st : List zV} {M : zM} {d oc op nx tg len : Nat} {ret : Option FieldType} {r : List Int} {q : zC} (hC : zCtx K (zow oc) nm cc p s m args meth c) (hH : zHy l R K ph c0 s0 d M q.2.2.2) (hdg : decode cc pc = .ok (.newarray .int, len)) (hck : zokI oc nm ret pc op nx tg r (.newarray .int) len = true) (hst : zstep ph (zEm ph d) op nx tg r L st M = some (.inl q)) (hk : ∀ gx, zGo p l e R s m args below meth c Q K ph c0 s0 (gs ++ gx) q.1 q.2.1 q.2.2.1 q.2.2.2) : zGo p l e R s m args below meth c Q K ph c0 s0 gs pc L st M := by
  simp only [zokI, Bool.and_eq_true, Bool.or_eq_true, beq_iff_eq, decide_eq_true_eq] at hck
  obtain ⟨⟨⟨rfl, rfl⟩, rfl⟩, rfl⟩ := hck
  obtain ⟨⟨st1, M1⟩, hw, rfl⟩ := zmap_inl (o := zF4_a [10] st M) (f := fun w => (_, L, w.1, w.2)) hst
  exact zs_newarray hC hdg (Or.inl ⟨rfl, rfl⟩) (zarw.1.1) hH.2.2.1 hH.2.2.2 hw hk
theorem zd_na_long {p : Program} {l : Launch} {e : Env} {R : Room} {s : State} {m : MethodId} {args : Array Value} {below : List Frame} {meth : Method} {c : Code} {Q : State → Prop} {K : zK} {ph : Bool} {c0 s0 : Int} {gs : zG} {nm : String} {cc : ByteArray} {pc : Nat} {L st : List zV} {M : zM} {d oc op nx tg len : Nat} {ret : Option FieldType} {r : List Int} {q : zC} (hC : zCtx K (zow oc) nm cc p s m args meth c) (hH : zHy l R K ph c0 s0 d M q.2.2.2) (hdg : decode cc pc = .ok (.newarray .long, len)) (hck : zokI oc nm ret pc op nx tg r (.newarray .long) len = true) (hst : zstep ph (zEm ph d) op nx tg r L st M = some (.inl q)) (hk : ∀ gx, zGo p l e R s m args below meth c Q K ph c0 s0 (gs ++ gx) q.1 q.2.1 q.2.2.1 q.2.2.2) : zGo p l e R s m args below meth c Q K ph c0 s0 gs pc L st M := by
  simp only [zokI, Bool.and_eq_true, Bool.or_eq_true, beq_iff_eq, decide_eq_true_eq] at hck
  obtain ⟨⟨⟨rfl, rfl⟩, rfl⟩, rfl⟩ := hck
  obtain ⟨⟨st1, M1⟩, hw, rfl⟩ := zmap_inl (o := zF4_a [11] st M) (f := fun w => (_, L, w.1, w.2)) hst
  exact zs_newarray hC hdg (Or.inr (Or.inl ⟨rfl, rfl⟩)) (zarw.1.2) hH.2.2.1 hH.2.2.2 hw hk
theorem zd_na_boolean {p : Program} {l : Launch} {e : Env} {R : Room} {s : State} {m : MethodId} {args : Array Value} {below : List Frame} {meth : Method} {c : Code} {Q : State → Prop} {K : zK} {ph : Bool} {c0 s0 : Int} {gs : zG} {nm : String} {cc : ByteArray} {pc : Nat} {L st : List zV} {M : zM} {d oc op nx tg len : Nat} {ret : Option FieldType} {r : List Int} {q : zC} (hC : zCtx K (zow oc) nm cc p s m args meth c) (hH : zHy l R K ph c0 s0 d M q.2.2.2) (hdg : decode cc pc = .ok (.newarray .boolean, len)) (hck : zokI oc nm ret pc op nx tg r (.newarray .boolean) len = true) (hst : zstep ph (zEm ph d) op nx tg r L st M = some (.inl q)) (hk : ∀ gx, zGo p l e R s m args below meth c Q K ph c0 s0 (gs ++ gx) q.1 q.2.1 q.2.2.1 q.2.2.2) : zGo p l e R s m args below meth c Q K ph c0 s0 gs pc L st M := by
  simp only [zokI, Bool.and_eq_true, Bool.or_eq_true, beq_iff_eq, decide_eq_true_eq] at hck
  obtain ⟨⟨⟨rfl, rfl⟩, rfl⟩, rfl⟩ := hck
  obtain ⟨⟨st1, M1⟩, hw, rfl⟩ := zmap_inl (o := zF4_a [12] st M) (f := fun w => (_, L, w.1, w.2)) hst
  exact zs_newarray hC hdg (Or.inr (Or.inr (Or.inl ⟨rfl, rfl⟩))) (zarw.2.1.1) hH.2.2.1 hH.2.2.2 hw hk
theorem zd_na_byte {p : Program} {l : Launch} {e : Env} {R : Room} {s : State} {m : MethodId} {args : Array Value} {below : List Frame} {meth : Method} {c : Code} {Q : State → Prop} {K : zK} {ph : Bool} {c0 s0 : Int} {gs : zG} {nm : String} {cc : ByteArray} {pc : Nat} {L st : List zV} {M : zM} {d oc op nx tg len : Nat} {ret : Option FieldType} {r : List Int} {q : zC} (hC : zCtx K (zow oc) nm cc p s m args meth c) (hH : zHy l R K ph c0 s0 d M q.2.2.2) (hdg : decode cc pc = .ok (.newarray .byte, len)) (hck : zokI oc nm ret pc op nx tg r (.newarray .byte) len = true) (hst : zstep ph (zEm ph d) op nx tg r L st M = some (.inl q)) (hk : ∀ gx, zGo p l e R s m args below meth c Q K ph c0 s0 (gs ++ gx) q.1 q.2.1 q.2.2.1 q.2.2.2) : zGo p l e R s m args below meth c Q K ph c0 s0 gs pc L st M := by
  simp only [zokI, Bool.and_eq_true, Bool.or_eq_true, beq_iff_eq, decide_eq_true_eq] at hck
  obtain ⟨⟨⟨rfl, rfl⟩, rfl⟩, rfl⟩ := hck
  obtain ⟨⟨st1, M1⟩, hw, rfl⟩ := zmap_inl (o := zF4_a [13] st M) (f := fun w => (_, L, w.1, w.2)) hst
  exact zs_newarray hC hdg (Or.inr (Or.inr (Or.inr ⟨rfl, rfl⟩))) (zarw.2.1.2) hH.2.2.1 hH.2.2.2 hw hk
theorem zd_anewarray {p : Program} {l : Launch} {e : Env} {R : Room} {s : State} {m : MethodId} {args : Array Value} {below : List Frame} {meth : Method} {c : Code} {Q : State → Prop} {K : zK} {ph : Bool} {c0 s0 : Int} {gs : zG} {nm : String} {cc : ByteArray} {pc : Nat} {L st : List zV} {M : zM} {d oc op nx tg len : Nat} {ret : Option FieldType} {r : List Int} {q : zC} {i : Nat} (hC : zCtx K (zow oc) nm cc p s m args meth c) (hH : zHy l R K ph c0 s0 d M q.2.2.2) (hdg : decode cc pc = .ok (.anewarray i, len)) (hck : zokI oc nm ret pc op nx tg r (.anewarray i) len = true) (hst : zstep ph (zEm ph d) op nx tg r L st M = some (.inl q)) (hk : ∀ gx, zGo p l e R s m args below meth c Q K ph c0 s0 (gs ++ gx) q.1 q.2.1 q.2.2.1 q.2.2.2) : zGo p l e R s m args below meth c Q K ph c0 s0 gs pc L st M := by
  simp only [zokI, Bool.and_eq_true, Bool.or_eq_true, beq_iff_eq, decide_eq_true_eq] at hck
  obtain ⟨⟨⟨rfl, rfl⟩, rfl⟩, hck⟩ := hck
  unfold zka at hck
  split at hck
  · rename_i a b hz
    simp only [Bool.and_eq_true, Bool.or_eq_true, decide_eq_true_eq] at hck
    rcases hck with ⟨rfl, rfl⟩ | ⟨rfl, rfl⟩
    · obtain ⟨⟨st1, M1⟩, hw, rfl⟩ := zmap_inl (o := zF4_a [14] st M) (f := fun w => (_, L, w.1, w.2)) hst
      exact zs_anewarray hC hdg (Or.inl rfl) (zlkw8 (r := (zR6, zT6, 11)) hz rfl) zarw.2.2.1 hH.2.2.1 hH.2.2.2 hw hk
    · obtain ⟨⟨st1, M1⟩, hw, rfl⟩ := zmap_inl (o := zF4_a [15] st M) (f := fun w => (_, L, w.1, w.2)) hst
      exact zs_anewarray hC hdg (Or.inr rfl) (zlkw8 (r := (zR1, zT1, 4)) hz rfl) zarw.2.2.2 hH.2.2.1 hH.2.2.2 hw hk
  · cases hck
