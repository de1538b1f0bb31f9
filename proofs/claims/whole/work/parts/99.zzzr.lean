/-! what the premises give of the start: the constants, the texts -/
set_option maxRecDepth 100000 in
theorem wf_ref : zstn.all (fun q => decide (Cond.stringRef q.1 q.2.1 q.2.2 ∈ lw_tbl)) = true := by decide +kernel
/-- the texts differ: by a length, or by a place -/
theorem wf_ne : (List.range 8).all (fun i => (List.range 8).all (fun j => decide (i = j) || decide (Int32.ofNat (zstl.getD i 0) ≠ Int32.ofNat (zstl.getD j 0)) || (List.range 64).any (fun k => decide (k < zstl.getD i 0) && decide (k < zstl.getD j 0) && decide ((zstb.getD i []).getD k 0 ≠ (zstb.getD j []).getD k 0)))) = true := by decide +kernel
theorem zw_en {args : Array Value} {s : State} {A : Nat → Prop} (hl : ∀ i, i < 34 → (Cond.laysStatic zEW (zEnm.getD i "") zEWd).before args s = true) (hini : (Cond.initialized zEW).before args s = true)
    (hex : ∀ i, i < 34 → (Cond.exactly (wes i) zEW).before args s = true) (hf : ∀ i, i < 34 → (Cond.eq (.field (wes i) "java/lang/Enum" "ordinal" "I") (.int (zord.getD i 0))).before args s = true) (hA : ∀ a : Nat, a < s.heap.size → ¬ A a) :
    ∃ ad : Nat → Nat, va_En zEW zEWd zEnm [("java/lang/Enum", "ordinal", "I", zord)] ad A s s.heap ∧ ∀ i, i < 34 → (wes i).eval args s none [] s = some (.ref (ad i)) := by
  have h0 : ∀ i : Nat, ∃ t : Nat, i < 34 → (wes i).eval args s none [] s = some (.ref t) ∧ va_O zEW t A s s.heap := by
    intro i
    by_cases hi : i < 34
    · obtain ⟨a, c, cell, k, q1, q2, q3, q4, q5, q6, -⟩ := Cond.exactly_spec (hex i hi)
      exact ⟨a, fun _ => ⟨q1, cell, q3, q5, by rw [q6]; exact q2, hA a (Array.getElem?_eq_some_iff.mp q3).1⟩⟩
    · exact ⟨0, fun h => absurd h hi⟩
  obtain ⟨ad, had⟩ := Classical.axiomOfChoice h0
  have hof : ∀ i, i < 34 → va_OF "java/lang/Enum" "ordinal" "I" (.int (zord.getD i 0)) (ad i) A s s.heap := fun i hi => vk_OFof (had i hi).1 (va_eqt (hf i hi)) hA
  refine ⟨ad, ⟨fun i hi => ⟨va_Zref (hl i hi) hini (had i hi).1 hA, (had i hi).2, fun q hq => ?_⟩, fun i j hi hj e => ?_⟩, fun i hi => (had i hi).1⟩
  · rw [List.mem_singleton.mp hq]
    exact hof i hi
  · obtain ⟨c1, k1, i1, f1, cell1, g1, -, g3, -, g5, -⟩ := hof i hi
    obtain ⟨c2, k2, i2, f2, cell2, h1, -, h3, -, h5, -⟩ := hof j hj
    rw [g1] at h1
    cases h1
    rw [e, h3] at g3
    cases g3
    rw [g5] at h5
    have h6 : zord.getD i 0 = zord.getD j 0 := by
      have := Option.some.inj h5
      injection this
    have hi : i < 34 := hi
    have hj : j < 34 := hj
    have key : (List.range 34).all (fun i => (List.range 34).all (fun j => decide (i = j) || decide (zord.getD i 0 ≠ zord.getD j 0))) = true := by decide +kernel
    have := List.all_eq_true.mp (List.all_eq_true.mp key i (List.mem_range.mpr hi)) j (List.mem_range.mpr hj)
    rw [Bool.or_eq_true] at this
    rcases this with h | h
    · exact of_decide_eq_true h
    · exact absurd h6 (of_decide_eq_true h)
theorem zw_tx {args : Array Value} {s : State} {A : Nat → Prop} (hw : ∀ w ∈ wfl, w.before args s = true) (hA : ∀ a : Nat, a < s.heap.size → ¬ A a) :
    ∃ adK adV : Nat → Nat, vk_S 8 zstl zstb adK adV A s s.heap ∧ ∀ i : Nat, i < 8 → (wtm i).eval args s none [] s = some (.ref (adK i)) := by
  have hx := fun (i : Nat) (hi : i < 8) => wf_tx' hi
  have h0 : ∀ i : Nat, ∃ q : Nat × Nat, i < 8 → (wtm i).eval args s none [] s = some (.ref q.1) ∧ va_O "java/lang/String" q.1 A s s.heap ∧ va_OF "java/lang/String" "coder" "B" (.int 0) q.1 A s s.heap ∧ va_OF "java/lang/String" "value" "[B" (.ref q.2) q.1 A s s.heap ∧ va_T .byte q.2 (zstl.getD i 0) (fun j => .int ((zstb.getD i []).getD j 0)) A s s.heap := by
    intro i
    by_cases hi : i < 8
    · obtain ⟨⟨⟨⟨⟨x1, x2⟩, x3⟩, x4⟩, x5⟩, x6⟩ := hx i hi
      obtain ⟨a, c, cA, kA, q1, q2, q3, q4, q5, q6, -⟩ := Cond.exactly_spec (args := args) (first := s) (o := none) (s := s) (idx := []) (t := wtm i) (cls := "java/lang/String") (hw _ x1)
      obtain ⟨t, ht, hT⟩ := va_Tof (f := fun j => .int ((zstb.getD i []).getD j 0)) (A := A) (show zstl.getD i 0 < 2 ^ 31 by omega) (hw _ x3) (va_eqt (hw _ x4)) (fun j hj => va_eqt (hw _ (x6 j hj))) hA
      exact ⟨(a, t), fun _ => ⟨q1, ⟨cA, q3, q5, by rw [q6]; exact q2, hA a (Array.getElem?_eq_some_iff.mp q3).1⟩, vk_OFof q1 (va_eqt (hw _ x2)) hA, vk_OFof q1 ht hA, hT⟩⟩
    · exact ⟨(0, 0), fun h => absurd h hi⟩
  obtain ⟨ad, had⟩ := Classical.axiomOfChoice h0
  refine ⟨fun i => (ad i).1, fun i => (ad i).2, ⟨fun i hi => (had i hi).2, fun i j hi hj e => ?_⟩, fun i hi => (had i hi).1⟩
  obtain ⟨-, -, -, g4, g5⟩ := had i hi
  obtain ⟨-, -, -, h4, h5⟩ := had j hj
  obtain ⟨c1, k1, i1, f1, cell1, a1, -, a3, -, a5, -⟩ := g4
  obtain ⟨c2, k2, i2, f2, cell2, b1, -, b3, -, b5, -⟩ := h4
  have e : (ad i).1 = (ad j).1 := e
  rw [a1] at b1
  cases b1
  rw [e, b3] at a3
  cases a3
  rw [a5] at b5
  have e2 : (ad i).2 = (ad j).2 := by
    have := Option.some.inj b5
    injection this
  obtain ⟨cellA, r1, -, -, -, r5, r6, -⟩ := g5
  obtain ⟨cellB, t1, -, -, -, t5, t6, -⟩ := h5
  rw [e2, t1] at r1
  cases r1
  have hk := List.all_eq_true.mp (List.all_eq_true.mp wf_ne i (List.mem_range.mpr hi)) j (List.mem_range.mpr hj)
  rw [Bool.or_eq_true, Bool.or_eq_true] at hk
  rcases hk with (hk | hk) | hk
  · exact of_decide_eq_true hk
  · exact absurd (r5.symm.trans t5) (of_decide_eq_true hk)
  · obtain ⟨k, -, hk⟩ := List.any_eq_true.mp hk
    simp only [Bool.and_eq_true, decide_eq_true_eq] at hk
    obtain ⟨⟨p1, p2⟩, p3⟩ := hk
    have h1 := (r6 k p1).symm.trans (t6 k p2)
    have h2 := Option.some.inj h1
    injection h2 with h2
    exact absurd h2 p3
