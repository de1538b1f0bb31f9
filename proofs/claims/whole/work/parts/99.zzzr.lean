/-! what the premises give of the start: the constants, the texts -/
set_option maxRecDepth 100000 in
theorem wf_ref : zstn.all (fun q => decide (Cond.stringRef q.1 q.2.1 q.2.2 ∈ lw_tbl)) = true := by decide +kernel
/-- the texts differ: by a length, or by a place -/
theorem wf_ne : (List.range 8).all (fun i => (List.range 8).all (fun j => decide (i = j) || decide (Int32.ofNat (zstl.getD i 0) ≠ Int32.ofNat (zstl.getD j 0)) || (List.range 64).any (fun k => decide (k < zstl.getD i 0) && decide (k < zstl.getD j 0) && decide ((zstb.getD i []).getD k 0 ≠ (zstb.getD j []).getD k 0)))) = true := by decide +kernel
/-- two terms that come to two cells aren't equal -/
theorem zw_ne {args : Array Value} {s : State} {t u : Term} {a b : Nat} (ht : t.eval args s none [] s = some (.ref a)) (hu : u.eval args s none [] s = some (.ref b)) (h : a ≠ b) : (Cond.not (.eq t u)).before args s = true := by
  simp [Cond.before, Cond.holds, Cond.value, ht, hu, h]
theorem zw_ref {args : Array Value} {s : State} {t : Term} {C : String} (h : (Cond.exactly t C).before args s = true) : ∃ a : Nat, t.eval args s none [] s = some (.ref a) := by
  obtain ⟨a, _, _, _, q, -⟩ := Cond.exactly_spec h
  exact ⟨a, q⟩
theorem zw_len {args : Array Value} {s : State} {t u : Term} (h : t.eval args s none [] s = u.eval args s none [] s) : (Term.length t).eval args s none [] s = (Term.length u).eval args s none [] s := by simp only [Term.eval, h]
theorem zw_elem {args : Array Value} {s : State} {t u k : Term} (h : t.eval args s none [] s = u.eval args s none [] s) : (Term.elem t k).eval args s none [] s = (Term.elem u k).eval args s none [] s := by simp only [Term.eval, h]
theorem zw_en {args : Array Value} {s : State} {A : Nat → Prop} (hl : ∀ i, i < 34 → (Cond.laysStatic zEW (zEnm.getD i "") zEWd).before args s = true) (hini : (Cond.initialized zEW).before args s = true)
    (hex : ∀ i, i < 34 → (Cond.exactly (wes i) zEW).before args s = true) (hf : ∀ i, i < 34 → (Cond.eq (.field (wes i) "java/lang/Enum" "ordinal" "I") (.int (zord.getD i 0))).before args s = true) (hA : ∀ a : Nat, a < s.heap.size → ¬ A a) :
    ∃ ad : Nat → Nat, va_En zEW zEWd zEnm [("java/lang/Enum", "ordinal", "I", zord)] ad A s s.heap ∧ ∀ i, i < 34 → (wes i).eval args s none [] s = some (.ref (ad i)) := by
  have ho : ∀ i, i < 34 → ∀ j, j < 34 → i ≠ j → zord.getD i 0 ≠ zord.getD j 0 := by decide +kernel
  have hd : ∀ i j, i < 34 → j < 34 → i ≠ j → (Cond.not (.eq (wes i) (wes j))).before args s = true := by
    intro i j hi hj hij
    obtain ⟨a, ha⟩ := zw_ref (hex i hi)
    obtain ⟨b, hb⟩ := zw_ref (hex j hj)
    refine zw_ne ha hb fun e => ho i hi j hj hij ?_
    have x := va_eqt (hf i hi)
    rw [va_fe ha, e, ← va_fe hb, va_eqt (hf j hj)] at x
    injection Option.some.inj x with x
    exact x.symm
  obtain ⟨ad, h1, h2⟩ := va_Enof2 (args := args) (E := zEW) (d := zEWd) (nm := zEnm) (F := [("java/lang/Enum", "ordinal", "I", zord)]) (A := A) hl hini hex (fun q hq i hi => by rw [List.mem_singleton.mp hq]; exact hf i hi) (fun i j hi hj hij => Or.inl (hd i j hi hj hij)) hA
  exact ⟨ad, h1, h2⟩
theorem zw_tx {args : Array Value} {s : State} {A : Nat → Prop} (hw : ∀ w ∈ wfl, w.before args s = true) (hA : ∀ a : Nat, a < s.heap.size → ¬ A a) :
    ∃ adK adV : Nat → Nat, vk_S 8 zstl zstb adK adV A s s.heap ∧ ∀ i : Nat, i < 8 → (wtm i).eval args s none [] s = some (.ref (adK i)) := by
  have hne : ∀ i j : Nat, i < 8 → j < 8 → i ≠ j → (Cond.not (Cond.eq (wtm i) (wtm j))).before args s = true := by
    intro i j hi hj hij
    obtain ⟨⟨⟨⟨⟨x1, -⟩, -⟩, x4⟩, -⟩, x6⟩ := wf_tx' hi
    obtain ⟨⟨⟨⟨⟨y1, -⟩, -⟩, y4⟩, -⟩, y6⟩ := wf_tx' hj
    obtain ⟨a, ha⟩ := zw_ref (hw _ x1)
    obtain ⟨b, hb⟩ := zw_ref (hw _ y1)
    refine zw_ne ha hb fun e => ?_
    have hv : (Term.field (wtm i) "java/lang/String" "value" "[B").eval args s none [] s = (Term.field (wtm j) "java/lang/String" "value" "[B").eval args s none [] s := by rw [va_fe ha, va_fe hb, e]
    have hk := List.all_eq_true.mp (List.all_eq_true.mp wf_ne i (List.mem_range.mpr hi)) j (List.mem_range.mpr hj)
    rw [Bool.or_eq_true, Bool.or_eq_true] at hk
    rcases hk with (hk | hk) | hk
    · exact hij (of_decide_eq_true hk)
    · have z := (va_eqt (hw _ x4)).symm.trans ((zw_len hv).trans (va_eqt (hw _ y4)))
      injection Option.some.inj z with z
      exact of_decide_eq_true hk z
    · obtain ⟨k, -, hk⟩ := List.any_eq_true.mp hk
      simp only [Bool.and_eq_true, decide_eq_true_eq] at hk
      have z := (va_eqt (hw _ (x6 k hk.1.1))).symm.trans ((zw_elem hv).trans (va_eqt (hw _ (y6 k hk.1.2))))
      injection Option.some.inj z with z
      exact hk.2 z
  obtain ⟨aK, aV, h1, h2⟩ := vk_Sof (args := args) (N := 8) (tm := wtm) (len := zstl) (byt := zstb) (A := A) (fun i hi => by have := (wf_tx' hi).1.2; omega) (fun i hi => hw _ (wf_tx' hi).1.1.1.1.1) (fun i hi => hw _ (wf_tx' hi).1.1.1.1.2) (fun i hi => hw _ (wf_tx' hi).1.1.1.2) (fun i hi => hw _ (wf_tx' hi).1.1.2) (fun i hi j hj => hw _ ((wf_tx' hi).2 j hj)) (fun i j hi hj hij => Or.inl (hne i j hi hj hij)) hA
  exact ⟨aK, aV, h1, h2⟩
