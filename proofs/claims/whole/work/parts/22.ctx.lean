/-! a method's run, and one step of it: constants, locals, numbers, branches -/
def zEnm : List String := ["NO_WORD", "NAME", "STREET", "HAND", "CHILD", "QUESTION", "WANTS", "LEFT_WAY", "RIGHT_WAY", "GRANTS", "SAND", "ECHO", "PRICE", "WAGE", "BUYS", "STRIKES", "WORKS", "SWAYED", "PUT", "LAY", "DRY_DAY", "WET_DAY", "SNOW_DAY", "DAY", "OR", "AND", "NOT", "SILENT", "OF", "FOR", "AGAINST", "IRONS", "COIN", "NUMBER"]
def zEW : String := "ClogVotes$Word"
def zEWd : String := "LClogVotes$Word;"
def zord : List Int32 := (List.range 34).map Int32.ofNat
def zstl : List Nat := zstr.map List.length
def zstb : List (List Int32) := zstr.map (fun l => l.map Int32.ofInt)
def zstn : List (String × Nat × String) := [("ClogVotes", 122, "no such hand"), ("ClogVotes", 146, "nothing such of a hand"), ("ClogVotes", 155, "no such question"), ("ClogVotes", 172, "nothing such of a question"), ("ClogVotes", 356, " is open"), ("ClogVotes", 361, " carried by "), ("ClogVotes", 363, " lost by "), ("ClogVotes$Tape", 78, ";<=>().")]
/-- what stands from the start and isn't written -/
def zSt (K : zK) (s : State) : Prop :=
  va_En zEW zEWd zEnm [("java/lang/Enum", "ordinal", "I", zord)] (fun i => zsa K 4 ((i : Int) + 1)) (zA K) s s.heap ∧
  va_Ef 34 zEW "key" "J" (fun i => .long (Int64.ofInt (zkey ((i : Int) + 1)))) (fun i => zsa K 4 ((i : Int) + 1)) (zA K) s s.heap ∧
  (va_Z "ClogVotes$1" "$SwitchMap$ClogVotes$Word" "[I" (.ref (zsa K 5 0)) (zA K) s s.heap ∧ va_T .int (zsa K 5 0) 34 (fun j => .int (Int32.ofInt (zsta 5 0 j))) (zA K) s s.heap) ∧
  (va_Z "ClogVotes" "WORDS" "[LClogVotes$Word;" (.ref (zsa K 6 0)) (zA K) s s.heap ∧ va_T (.object zEW) (zsa K 6 0) 34 (fun j => .ref (zsa K 4 ((j : Int) + 1))) (zA K) s s.heap) ∧
  (va_Z "java/lang/Integer" "DigitOnes" "[B" (.ref (zsa K 7 0)) (zA K) s s.heap ∧ va_T .byte (zsa K 7 0) 100 (fun j => .int (Int32.ofInt (zsta 7 0 j))) (zA K) s s.heap) ∧
  (va_Z "java/lang/Integer" "DigitTens" "[B" (.ref (zsa K 7 1)) (zA K) s s.heap ∧ va_T .byte (zsa K 7 1) 100 (fun j => .int (Int32.ofInt (zsta 7 1 j))) (zA K) s s.heap) ∧
  va_Z "java/lang/String" "COMPACT_STRINGS" "Z" (.int 1) (zA K) s s.heap ∧
  va_Zq "jdk/internal/util/Preconditions" "SIOOBE_FORMATTER" "Ljava/util/function/BiFunction;" (zA K) s s.heap ∧
  vk_S 8 zstl zstb (fun i => zsa K 8 (i : Int)) (fun i => zsa K 9 (i : Int)) (zA K) s s.heap ∧
  (∀ (i : Nat) (q : String × Nat × String), zstn[i]? = some q → vk_R q.1 q.2.1 q.2.2 (zsa K 8 (i : Int)) s) ∧
  (va_X (zsa K 16 (-2)) (zL K) (zxs K) s s.heap ∧ zsa K 16 (-2) < s.heap.size ∧ ¬ zA K (zsa K 16 (-2)) ∧ zL K ≤ 3072)
theorem zSt_moved {K : zK} {s U : State} (h : zSt K s) (hW : s.WarmedH U.vm) (hq : ∀ a : Nat, a < s.heap.size → ¬ zA K a → U.heap[a]? = s.heap[a]?) (hz : s.heap.size ≤ U.heap.size) : zSt K U := by
  obtain ⟨h1, h2, ⟨h3, h3'⟩, ⟨h4, h4'⟩, ⟨h5, h5'⟩, ⟨h6, h6'⟩, h7, h8, h9, h10, h11, h12, h13, h14⟩ := h
  have hv := hW.alike
  refine ⟨(h1.moved hv).kept hq, (va_Ef.moved hv h2).kept hq, ⟨(h3.moved hv).kept hq, (va_T.moved hv h3').kept hq⟩, ⟨(h4.moved hv).kept hq, (va_T.moved hv h4').kept hq⟩, ⟨(h5.moved hv).kept hq, (va_T.moved hv h5').kept hq⟩, ⟨(h6.moved hv).kept hq, (va_T.moved hv h6').kept hq⟩, (h7.moved hv).kept hq, (h8.moved hv).kept hq, (h9.moved hv).kept hq, fun i q hi => (h10 i q hi).warm hW, ?_, Nat.lt_of_lt_of_le h12 hz, h13, h14⟩
  exact (h11.moved hv).kept (hq _ h12 h13)
def zCtx (K : zK) (own nm : String) (cc : ByteArray) (p : Program) (s : State) (m : MethodId) (args : Array Value) (meth : Method) (c : Code) : Prop :=
  p.tables.exec = Jvm.exec ∧ c.code = cc ∧ s.vm.findClass own = some m.cls ∧ (∀ w ∈ zwl, w.before args s = true) ∧ va_K (zD K) zcls [] s ∧ zSt K s ∧ zbs K ≤ s.heap.size ∧ meth.locks = false ∧ meth.name = nm
def zLoc (K : zK) (gs : zG) (L : List zV) (ls : Array Slot) : Prop := ls.size = L.length ∧ lv_wf ls ∧ ∀ (i : Nat) (v : zV), L[i]? = some v → v.1 ≠ 3 → ∃ rv, zVR K gs v rv ∧ ls[i]? = some (.val rv)
def zGo (p : Program) (l : Launch) (e : Env) (R : Room) (s : State) (m : MethodId) (args : Array Value) (below : List Frame) (meth : Method) (c : Code) (Q : State → Prop) (K : zK) (ph : Bool) (c0 s0 : Int) (gs : zG) (pc : Nat) (L st : List zV) (M : zM) : Prop :=
  ∀ (ls : Array Slot) (rst : List Value) (H : Heap) (locs : List Loc), ls.size = c.maxLocals → zLoc K gs L ls → zVRs K gs st rst → zRep K ph gs M s H → va_S (zA K) s.heap H locs →
    W p l e R s m args below meth c H locs (M (-1) 1 - c0).toNat (M (-1) 2 - s0).toNat Q (F0 m pc ls rst)
theorem znth_get : ∀ {L : List zV} {k : Nat} {v : zV}, znth L k = v → v.1 ≠ 3 → L[k]? = some v
  | [], k, v, h, hv => by subst h; exact absurd rfl hv
  | a :: L, 0, v, h, _ => by subst h; rfl
  | a :: L, k + 1, v, h, hv => by rw [List.getElem?_cons_succ]; exact znth_get h hv
theorem zset_get : ∀ {L : List zV} {k : Nat} {v : zV} (i : Nat), (zset L k v)[i]? = if i = k ∧ k < L.length then some v else L[i]?
  | [], k, v, i => by simp [zset]
  | a :: L, 0, v, 0 => by simp [zset]
  | a :: L, 0, v, i + 1 => by simp [zset]
  | a :: L, k + 1, v, 0 => by simp [zset]
  | a :: L, k + 1, v, i + 1 => by
    rw [zset, List.getElem?_cons_succ, zset_get i, List.getElem?_cons_succ]
    simp
theorem zset_len : ∀ {L : List zV} {k : Nat} {v : zV}, (zset L k v).length = L.length
  | [], _, _ => rfl
  | _ :: _, 0, _ => rfl
  | _ :: L, k + 1, v => by simp [zset, zset_len]
theorem zok_lt : ∀ {L : List zV} {k : Nat}, zok L k = true → k < L.length
  | [], _, h => by simp [zok] at h
  | _ :: _, 0, _ => by simp
  | a :: L, k + 1, h => by
    rw [zok] at h
    split at h
    · rename_i h0; subst h0
      cases L with
      | nil => simp at h
      | cons b L => simp
    · have := zok_lt h
      simp; omega
theorem zok_prev : ∀ {L : List zV} {k : Nat} {v : zV}, zok L (k + 1) = true → L[k]? = some v → v.1 ≠ 1
  | [], _, _, h, _ => by simp [zok] at h
  | a :: L, 0, v, h, hv => by
    rw [zok, if_pos rfl] at h
    simp at hv h
    subst hv
    exact h.1
  | a :: L, k + 1, v, h, hv => by
    rw [zok, if_neg (by omega)] at h
    rw [List.getElem?_cons_succ] at hv
    exact zok_prev h hv
/-- all values of the locals, listed -/
def zall (ls : Array Slot) : List (Nat × Value) := (List.range ls.size).filterMap (fun (i : Nat) => match ls[i]? with
  | some (Slot.val v) => some (i, v)
  | _ => none)
theorem zall_mem {ls : Array Slot} {i : Nat} {v : Value} : (i, v) ∈ zall ls ↔ ls[i]? = some (.val v) := by
  unfold zall
  rw [List.mem_filterMap]
  constructor
  · rintro ⟨k, -, h⟩
    split at h
    · rename_i w hw
      cases h
      exact hw
    · cases h
  · intro h
    exact ⟨i, List.mem_range.mpr (Array.getElem?_eq_some_iff.mp h).1, by rw [h]⟩
theorem zall_has {ls : Array Slot} {n : Nat} (hn : ls.size = n) (hw : lv_wf ls) : lv_has ls n (zall ls) := ⟨hn, hw, fun q hq => zall_mem.mp hq⟩
/-- behind a store of one word -/
theorem zLoc_st1 {K : zK} {gs : zG} {L : List zV} {ls ls' : Array Slot} {k n : Nat} {v : zV} {rv : Value} (h : zLoc K gs L ls) (hn : ls.size = n) (hv : zVR K gs v rv) (hk : zok L k = true)
    (h' : lv_has ls' n ((k, rv) :: (zall ls).filter (fun q => !(q.1 == k) && !(q.1 + 1 == k && q.2.category == 2)))) : zLoc K gs (zset L k v) ls' := by
  obtain ⟨a1, a2, a3⟩ := h
  obtain ⟨b1, b2, b3⟩ := h'
  refine ⟨by rw [zset_len, b1, ← hn]; exact a1, b2, fun i w hi hw => ?_⟩
  rw [zset_get] at hi
  by_cases hik : i = k
  · rw [if_pos ⟨hik, zok_lt hk⟩] at hi
    cases hi
    subst hik
    exact ⟨rv, hv, b3 (i, rv) List.mem_cons_self⟩
  · rw [if_neg (fun z => hik z.1)] at hi
    obtain ⟨rw', c1, c2⟩ := a3 i w hi hw
    refine ⟨rw', c1, b3 (i, rw') (List.mem_cons_of_mem _ (List.mem_filter.mpr ⟨zall_mem.mpr c2, ?_⟩))⟩
    simp only [Bool.and_eq_true, Bool.not_eq_true', beq_eq_false_iff_ne, ne_eq, Bool.and_eq_false_iff]
    refine ⟨hik, ?_⟩
    by_cases h2 : i + 1 = k
    · refine Or.inr fun z => ?_
      subst h2
      have h3 := zok_prev hk hi
      have h4 := zVR_cat (t := w.1) (x := w.2.1) (n := w.2.2) c1
      rw [if_neg h3] at h4
      omega
    · exact Or.inl h2
