/-! the law's two helpers, soundly -/
def zhn (j : Nat) : MethodName := if j = 5 then ⟨"ClogVotesLaw", "hand", "(LClogVotes;II[J)I"⟩ else ⟨"ClogVotesLaw", "question", "(LClogVotes;II[J)I"⟩
def zhc (j : Nat) : ByteArray := if j = 5 then method_3_code else method_4_code
def zhk (j : Nat) : Nat := if j = 5 then 7 else 15
theorem zhc_d {j : Nat} (hj : j = 5 ∨ j = 7) : (decode (zhc j) 0 = .ok (.aload_n 3, 1) ∧ decode (zhc j) 1 = .ok (.iconst 0, 1) ∧ decode (zhc j) 2 = .ok (.aload_n 0, 1) ∧ decode (zhc j) 3 = .ok (.iload_n 1, 1) ∧ decode (zhc j) 4 = .ok (.iload_n 2, 1)) ∧ decode (zhc j) 5 = .ok (.invokevirtual (zhk j), 3) ∧ (decode (zhc j) 8 = .ok (.i2l, 1) ∧ decode (zhc j) 9 = .ok (.lastore, 1) ∧ decode (zhc j) 10 = .ok (.goto 7, 3)) ∧ (decode (zhc j) 13 = .ok (.astore 4, 2) ∧ decode (zhc j) 15 = .ok (.iconst 1, 1) ∧ decode (zhc j) 16 = .ok (.ireturn, 1)) ∧ decode (zhc j) 17 = .ok (.iconst 0, 1) ∧ decode (zhc j) 18 = .ok (.ireturn, 1) := by
  rcases hj with rfl | rfl <;> decide +kernel
set_option maxRecDepth 20000 in
theorem zhn_w {j : Nat} (hj : j = 5 ∨ j = 7) : Cond.codeWith (zhn j) (zhc j) 5 (some .int) [(0, 10, 13, 13)] ∈ zwl ∧ Cond.classLink "ClogVotesLaw" 13 zxE ∈ zwl ∧ plainName (zhn j).cls = true ∧ (zhn j).cls = "ClogVotesLaw" ∧ goodWord (Cond.codeWith (zhn j) (zhc j) 5 (some .int) [(0, 10, 13, 13)]) = true := by
  rcases hj with rfl | rfl
  · exact ⟨zwl_of (by decide +kernel) rfl, zwl_of (by decide +kernel) rfl, by decide +kernel, rfl, rfl⟩
  · exact ⟨zwl_of (by decide +kernel) rfl, zwl_of (by decide +kernel) rfl, by decide +kernel, rfl, rfl⟩
set_option maxRecDepth 20000 in
/-- what a call of hand or question wants of the tables -/
theorem zhq_w {j : Nat} {q : zME} (hj : j = 5 ∨ j = 7) (hq : zmt j = some q) : Cond.methodLink "ClogVotesLaw" (zhk j) q.1 ∈ zwl ∧ Cond.instanceMethod q.1 ∈ zwl ∧ Cond.selects "ClogVotes" q.1 q.1 ∈ zwl ∧ Cond.initialized q.1.cls ∈ zwl ∧ (q.1.cls ≠ "java/lang/invoke/MethodHandle" ∧ q.1.cls ≠ "java/lang/invoke/VarHandle" ∧ (parseMethodDescriptor q.1.desc).map (fun d => d.parameters.length) = some 2) ∧ q.2.2.1 = 3 := by
  have key : (zmt j).map (fun q => (decide (Cond.methodLink "ClogVotesLaw" (zhk j) q.1 ∈ lw_tbl) && decide (Cond.instanceMethod q.1 ∈ lw_tbl) && decide (Cond.selects "ClogVotes" q.1 q.1 ∈ lw_tbl) && decide (Cond.initialized q.1.cls ∈ lw_tbl)) && (decide (q.1.cls ≠ "java/lang/invoke/MethodHandle") && decide (q.1.cls ≠ "java/lang/invoke/VarHandle") && decide ((parseMethodDescriptor q.1.desc).map (fun d => d.parameters.length) = some 2) && decide (q.2.2.1 = 3))) = some true := by rcases hj with rfl | rfl <;> decide +kernel
  rw [hq] at key
  simp only [Option.map_some, Option.some.injEq, Bool.and_eq_true, decide_eq_true_eq] at key
  obtain ⟨⟨⟨⟨a1, a2⟩, a3⟩, a4⟩, ⟨⟨b1, b2⟩, b3⟩, b4⟩ := key
  exact ⟨zwl_of a1 rfl, zwl_of a2 rfl, zwl_of a3 rfl, zwl_of a4 rfl, ⟨b1, b2, b3⟩, b4⟩
section ZHC
variable {p : Program} {l : Launch} {e : Env} {R : Room} {s : State} {m : MethodId} {args : Array Value} {below : List Frame} {meth : Method} {c : Code} {Q : State → Prop} {H : Heap} {locs : List Loc} {cells slots mc ms : Nat} {ls : Array Slot} {rest st0 : List Value} {K : zK} {ph : Bool} {gs : zG} {own nm : String} {cc : ByteArray} {pc : Nat} {M M' : zM} {v : zV} {a : Array Value}
theorem zcall_WX (hC : zCtx K own nm cc p s m args meth c) (hr : vx_Run p l e R s m args below meth c H locs cells slots mc ms (F0 m pc ls st0) rest (zQcX K ph gs v M' a) (zXC K ph gs v M') (zA K)) (hS : va_S (zA K) s.heap H locs)
    (kx : v.1 = 99 → ∀ (gx : zG) (ce : Cell) (q9 : Addr) (H1 : Heap) (locs1 : List Loc), zRep K ph (gs ++ gx) M' s H1 → va_S (zA K) s.heap H1 locs1 → H1[q9]? = some ce → ce.vm = .none → s.vm.findClass zxE = some ce.cls → vx_W p l e R s m args below meth c H1 locs1 (cells + mc) (slots + ms) Q (F0 m pc ls rest) q9)
    (kk : v.1 ≠ 99 → ∀ (gx : zG) (rv : Option Value) (H1 : Heap) (locs1 : List Loc), zRet K (gs ++ gx) v rv → zRep K ph (gs ++ gx) M' s H1 → va_S (zA K) s.heap H1 locs1 → W p l e R s m args below meth c H1 locs1 (cells + mc) (slots + ms) Q (F0 m (pc + 3) ls (rv.toList ++ rest))) :
    W p l e R s m args below meth c H locs cells slots Q (F0 m pc ls st0) := by
  intro T hT X
  have keep : ∀ (st₀ t : State) (H1 : Heap) (L : List Loc), st₀.heap = H → H1 = t.heap → va_F (zA K) st₀ t → (∀ q ∈ L, zA K q.base) → va_S (zA K) s.heap H1 (locs ++ L) := by
    intro st₀ t H1 L h0 e1 hF hL
    obtain ⟨hz, hk⟩ := hF
    rw [h0] at hz hk
    exact ⟨Nat.le_trans hS.1 (by rw [e1]; exact hz), fun q h1 h2 => by rw [e1, hk q (Nat.lt_of_lt_of_le h1 hS.1) h2]; exact hS.2.1 q h1 h2, fun q hq => by
      rcases List.mem_append.mp hq with h | h
      · exact hS.2.2 q h
      · exact hL q h⟩
  rcases hr T hT X with ⟨v', st₀, t, T', L, h0, X', hL, e1, e2, ⟨hv99, gx, rv, hv, hret, hrep, hF⟩, st⟩ | ⟨q, st₀, t, T', L, E, ce, h0, X', hL, e1, e2, ⟨hE, hv99, ⟨gx, hrep⟩, hF⟩, hce, hcv, hcl, st⟩
  · cases hv
    have hal : s.vm.Alike t.vm := by rw [← e2]; exact X'.warmed.alike
    obtain ⟨t2, a1, b1⟩ := kk hv99 gx v' T'.heap (locs ++ L) hret (by rw [e1]; exact zRep_moved hrep hal.symm) (keep st₀ t _ L h0 e1 hF hL) T' rfl X'
    exact ⟨t2, st t2 a1, b1⟩
  · subst hE
    have hal : s.vm.Alike t.vm := by rw [← e2]; exact X'.warmed.alike
    obtain ⟨t2, a1, b1⟩ := kx hv99 gx ce q T'.heap (locs ++ L) (by rw [e1]; exact zRep_moved hrep hal.symm) (keep st₀ t _ L h0 e1 hF hL) (by rw [e1]; exact hce) hcv hcl T' rfl X'
    exact ⟨t2, st.trans a1, b1⟩
end ZHC
