/-! the words that the methods use: the tables' good ones, those of nest mates and of arrays of objects, and what a builder's own private methods come to -/
def zbad : Cond → Bool
  | .methodLinkNest .. => true
  | .fieldLinkNest .. => true
  | .arrayOver (.object _) => true
  | _ => false
def zwok (w : Cond) : Bool := goodWord w || zbad w
def zAB : String := "java/lang/AbstractStringBuilder"
def zSBn : String := "java/lang/StringBuilder"
def zabs : List MethodName := [⟨zAB, "ensureCapacityInternal", "(I)V"⟩, ⟨zAB, "newCapacity", "(I)I"⟩, ⟨zAB, "inflate", "()V"⟩, ⟨zAB, "appendNull", "()Ljava/lang/AbstractStringBuilder;"⟩, ⟨zAB, "putStringAt", "(ILjava/lang/String;)V"⟩, ⟨zAB, "inflateIfNeededFor", "(Ljava/lang/String;)V"⟩]
def zwx : List Cond := zabs.map fun y => Cond.selects zSBn y y
def zwl : List Cond := lw_tbl.filter zwok ++ zwx
theorem zwl_of {w : Cond} (h : w ∈ lw_tbl) (h' : zwok w = true) : w ∈ zwl := List.mem_append_left _ (List.mem_filter.mpr ⟨h, h'⟩)
theorem zwl_in {w : Cond} (h : w ∈ zwl) : zwok w = true ∧ (w ∈ lw_tbl ∨ w ∈ zwx) := by
  rcases List.mem_append.mp h with h | h
  · have := List.mem_filter.mp h
    exact ⟨this.2, Or.inl this.1⟩
  · refine ⟨?_, Or.inr h⟩
    obtain ⟨y, -, rfl⟩ := List.mem_map.mp h
    rfl
/-- the good ones of them -/
def zwg : List Cond := zwl.filter goodWord
theorem zwg_in {w : Cond} (h : w ∈ zwg) : w ∈ zwl ∧ goodWord w = true := List.mem_filter.mp h
/-- the others, as a state's own facts -/
def zNw (U : State) : Prop := ∀ w ∈ zwl, goodWord w = false → w.before #[] U = true
theorem zNw_moved {s U : State} (h : zNw s) (hW : s.WarmedH U.vm) : zNw U := by
  intro w hw hg
  have h1 := (zwl_in hw).1
  unfold zwok at h1
  rw [hg, Bool.false_or] at h1
  have h2 := h w hw hg
  cases w <;> try (simp [zbad] at h1; done)
  · exact va_Nw.warmM hW h2
  · exact va_Nw.warmF hW h2
  · rename_i ty
    cases ty <;> try (simp [zbad] at h1; done)
    exact va_AO.moved hW.alike h2
theorem zNw_use {args : Array Value} {s : State} (h1 : ∀ w ∈ zwg, w.before args s = true) (h2 : zNw s) : ∀ w ∈ zwl, w.before args s = true := by
  intro w hw
  by_cases g : goodWord w = true
  · exact h1 w (List.mem_filter.mpr ⟨hw, g⟩)
  · have g' : goodWord w = false := by simpa using g
    have h3 := h2 w hw g'
    have h4 := (zwl_in hw).1
    unfold zwok at h4
    rw [g', Bool.false_or] at h4
    cases w <;> try (simp [zbad] at h4; done)
    · exact va_Nw.use rfl h3
    · exact va_Nw.use rfl h3
    · rename_i ty
      cases ty <;> try (simp [zbad] at h4; done)
      exact va_AO.use h3
theorem zNw_of {args : Array Value} {s : State} (h : ∀ w ∈ zwl, w.before args s = true) : zNw s := by
  intro w hw g'
  have h3 := h w hw
  have h4 := (zwl_in hw).1
  unfold zwok at h4
  rw [g', Bool.false_or] at h4
  cases w <;> try (simp [zbad] at h4; done)
  · exact va_Nw.of rfl h3
  · exact va_Nw.of rfl h3
  · rename_i ty
    cases ty <;> try (simp [zbad] at h4; done)
    exact va_AO.of h3
