/-! a text by a wide place -/
theorem zldcwS {p : Program} {l : Launch} {e : Env} {R : Room} {s : State} {m : MethodId} {args : Array Value} {below : List Frame} {meth : Method} {c : Code} {H : Heap} {locs : List Loc} {cells slots : Nat} {Q : State → Prop} {ls : Array Slot} {rest : List Value} {pc : Nat} (hexec : p.tables.exec = Jvm.exec) {own tx : String} {i q : Nat}
    (hown : s.vm.findClass own = some m.cls) (hZ : vk_R own i tx q s) (hdg : decode c.code pc = .ok (.ldc_w i, 3)) (k : W p l e R s m args below meth c H locs cells slots Q (F0 m (pc + 3) ls (.ref q :: rest))) : W p l e R s m args below meth c H locs cells slots Q (F0 m pc ls rest) := fun T hT X =>
  (k T hT X).imp fun t h => ⟨X.ldcStringW hexec hown hZ.1 hZ.2 (g := F0 m pc ls rest) rfl hdg t h.1, h.2⟩
theorem zs_ldcsw {p : Program} {l : Launch} {e : Env} {R : Room} {s : State} {m : MethodId} {args : Array Value} {below : List Frame} {meth : Method} {c : Code} {Q : State → Prop} {K : zK} {ph : Bool} {c0 s0 : Int} {gs : zG} {own nm : String} {cc : ByteArray} {pc : Nat} {L st : List zV} {M : zM} {i k : Nat} {q : String × Nat × String} (hC : zCtx K own nm cc p s m args meth c) (hdg : decode cc pc = .ok (.ldc_w i, 3)) (hq : zstn[k]? = some q) (h1 : q.1 = own) (h2 : q.2.1 = i)
    (hk : zGo p l e R s m args below meth c Q K ph c0 s0 gs (pc + 3) L ((8, (k : Int), ((zstr.getD k []).length : Int)) :: st) M) : zGo p l e R s m args below meth c Q K ph c0 s0 gs pc L st M := by
  intro ls rst H locs b0 b1 b2 b3 b4
  obtain ⟨-, -, -, -, -, -, -, -, -, g, -⟩ := hC.2.2.2.2.2.1
  have hZ := g k q hq
  rw [h1, h2] at hZ
  have h8 : k < 8 := (List.getElem?_eq_some_iff.mp hq).1
  refine zldcwS hC.1 hC.2.2.1 hZ (by rw [hC.2.1]; exact hdg) ?_
  exact hk ls (_ :: rst) H locs b0 b1 ⟨zVR_mkstat (by omega) (by simp only [zrng]; rw [if_neg (by decide), if_neg (by decide), if_neg (by decide), if_neg (by decide)]; omega) (fun _ => rfl), b2⟩ b3 b4
