/-! a text by a wide place -/
theorem zwp_str {s : State} {f : JFrame} {Q : Unit → Bool → List Action → State → Prop} {E : Control → List Action → State → Prop} {e : Env} {d : Bool} {acts : List Action} {index i a : Nat} {k : Class} {cf : ClassFile}
    (hs : s.topJava?.isSome) (hk : s.vm.classes[f.method.cls]? = some k) (hcf : k.cf = some cf) (hc : cf.constantPool[index]? = some (.string i))
    (hr : k.resolved[index]? = some (some (.string a))) :
    Sem.wp (Op.ldc_w.sem index) Q E e d acts (s.setTop f) ↔ Q () true acts (s.setTop { f with stack := .ref a :: f.stack }) := Op.ldc.wp_string hs hk hcf hc hr
section ZLDW
variable {p : Program} {l : Launch} {e : Env} {R : Room} {s : State} {m : MethodId} {args : Array Value} {below : List Frame} {meth : Method} {c : Code} {H : Heap} {locs : List Loc} {cells slots : Nat} {Q : State → Prop} {ls : Array Slot} {rest : List Value} {cc : ByteArray} {pc : Nat}
theorem zldcwS (hexec : p.tables.exec = Jvm.exec) (hb : c.code = cc) {own tx : String} {index q : Nat} (hown : s.vm.findClass own = some m.cls) (hZ : vk_R own index tx q s) (hdg : decode cc pc = .ok (.ldc_w index, 3))
    (k : W p l e R s m args below meth c H locs cells slots Q (F0 m (pc + 3) ls (.ref q :: rest))) : W p l e R s m args below meth c H locs cells slots Q (F0 m pc ls rest) := by
  intro T hT X
  obtain ⟨t, a1, b1⟩ := k T hT X
  refine ⟨t, ?_, b1⟩
  obtain ⟨k, cf, i, a', hk, hcf, hcp, -, hr, hev'⟩ := Cond.stringRef_spec (args := #[]) hown hZ.1
  cases hZ.2.symm.trans hev'
  obtain ⟨k', hk', he⟩ := X.warmed.alike.2.2 _ _ hk
  have hr' : k'.resolved[index]? = some (some (.string q)) := by
    rcases X.warmed.entry hk hk' index with h | ⟨h, -⟩
    · rw [h]; exact hr
    · rw [hr] at h; cases h
  jvm_step X.here [X.here.top, hexec, hb, hdg, zwp_str (e := e) (s := T) (f := F0 m pc ls rest) X.here.top hk' (by rw [he]; exact hcf) hcp hr']
  exact a1
end ZLDW
theorem zs_ldcsw {p : Program} {l : Launch} {e : Env} {R : Room} {s : State} {m : MethodId} {args : Array Value} {below : List Frame} {meth : Method} {c : Code} {Q : State → Prop} {K : zK} {ph : Bool} {c0 s0 : Int} {gs : zG} {own nm : String} {cc : ByteArray} {pc : Nat} {L st : List zV} {M : zM} {i k : Nat} {q : String × Nat × String} (hC : zCtx K own nm cc p s m args meth c) (hdg : decode cc pc = .ok (.ldc_w i, 3)) (hq : zstn[k]? = some q) (h1 : q.1 = own) (h2 : q.2.1 = i)
    (hk : zGo p l e R s m args below meth c Q K ph c0 s0 gs (pc + 3) L ((8, (k : Int), ((zstr.getD k []).length : Int)) :: st) M) : zGo p l e R s m args below meth c Q K ph c0 s0 gs pc L st M := by
  intro ls rst H locs b0 b1 b2 b3 b4
  obtain ⟨-, -, -, -, -, -, -, -, -, g, -⟩ := hC.2.2.2.2.2.1
  have hZ := g k q hq
  rw [h1, h2] at hZ
  have h8 : k < 8 := (List.getElem?_eq_some_iff.mp hq).1
  refine zldcwS hC.1 hC.2.1 hC.2.2.1 hZ hdg ?_
  exact hk ls (_ :: rst) H locs b0 b1 ⟨zVR_mkstat (by omega) (by simp only [zrng]; rw [if_neg (by decide), if_neg (by decide), if_neg (by decide), if_neg (by decide)]; omega) (fun _ => rfl), b2⟩ b3 b4
