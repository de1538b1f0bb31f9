/-! where the law goes: what lies on the stack at the calls of its helpers -/
theorem zlsw_in {dflt : Nat} : ∀ {r : List Int} {x : Int}, zlsw dflt r x = dflt ∨ ∃ t ∈ r, zlsw dflt r x = t.toNat
  | [], _ => Or.inl rfl
  | [_], _ => Or.inl rfl
  | k :: t :: l, x => by
    unfold zlsw
    split
    · exact Or.inr ⟨t, List.mem_cons_of_mem _ List.mem_cons_self, rfl⟩
    · rcases zlsw_in (dflt := dflt) (r := l) (x := x) with h | ⟨u, hu, h⟩
      · exact Or.inl h
      · exact Or.inr ⟨u, List.mem_cons_of_mem _ (List.mem_cons_of_mem _ hu), h⟩
theorem zF2_suc {op nx tg : Nat} {r : List Int} {st : List zV} {q : Nat × List zV} (h : zF2 op nx tg r st = some q) : q.1 = nx ∨ q.1 = tg ∨ ∃ t ∈ r, q.1 = t.toNat := by
  have hb : ∀ b : Bool, (bif b then tg else nx) = nx ∨ (bif b then tg else nx) = tg ∨ ∃ t ∈ r, (bif b then tg else nx) = t.toNat := fun b => by cases b <;> simp
  unfold zF2 at h
  split at h
  · unfold zF2_1 at h
    split at h
    · cases h; exact hb _
    · cases h
  split at h
  · unfold zF2_2 at h
    split at h
    · cases h; exact hb _
    · cases h
  split at h
  · cases h; exact Or.inr (Or.inl rfl)
  split at h
  · unfold zF2_e at h
    split at h
    · cases h; exact hb _
    · cases h
  split at h
  · unfold zF2_n at h
    repeat' split at h
    · cases h; exact Or.inr (Or.inl rfl)
    · cases h
    · cases h
  split at h
  · unfold zF2_t at h
    split at h
    · rename_i a x s
      cases h
      show ztsw tg (zr0 r) r.tail a = nx ∨ _
      unfold ztsw
      split
      · cases hg : r.tail[(a - zr0 r).toNat]? with
        | none => exact Or.inr (Or.inl rfl)
        | some t => exact Or.inr (Or.inr ⟨t, List.mem_of_mem_tail (List.mem_of_getElem? hg), rfl⟩)
      · exact Or.inr (Or.inl rfl)
    · cases h
  · unfold zF2_l at h
    split at h
    · cases h
      rcases zlsw_in (dflt := tg) with h | h
      · exact Or.inr (Or.inl h)
      · exact Or.inr (Or.inr h)
    · cases h
theorem zstep_suc {ph : Bool} {cl : Nat → List zV → zM → zO} {op nx tg : Nat} {r : List Int} {L st : List zV} {M : zM} {x : zC} (h : zstep ph cl op nx tg r L st M = some (.inl x)) : x.1 = nx ∨ (40 ≤ op ∧ op < 60 ∧ (x.1 = tg ∨ ∃ t ∈ r, x.1 = t.toNat)) := by
  unfold zstep at h
  split at h
  · obtain ⟨w, hw, h2⟩ := Option.map_eq_some_iff.mp h; cases h2; exact Or.inl rfl
  split at h
  · obtain ⟨w, hw, h2⟩ := Option.map_eq_some_iff.mp h; cases h2; exact Or.inl rfl
  split at h
  · obtain ⟨w, hw, h2⟩ := Option.map_eq_some_iff.mp h; cases h2
    rcases zF2_suc hw with h | h | h
    · exact Or.inl h
    · exact Or.inr ⟨by omega, by omega, Or.inl h⟩
    · exact Or.inr ⟨by omega, by omega, Or.inr h⟩
  split at h
  · obtain ⟨w, hw, h2⟩ := Option.map_eq_some_iff.mp h; cases h2; exact Or.inl rfl
  split at h
  · obtain ⟨w, hw, h2⟩ := Option.map_eq_some_iff.mp h; cases h2; exact Or.inl rfl
  split at h
  · obtain ⟨w, hw, h2⟩ := Option.map_eq_some_iff.mp h; cases h2; exact Or.inl rfl
  split at h
  · obtain ⟨w, hw, h2⟩ := Option.map_eq_some_iff.mp h; cases h2; exact Or.inl rfl
  split at h
  · obtain ⟨w, hw, h2⟩ := Option.map_eq_some_iff.mp h; cases h2
  split at h
  · cases h
  · obtain ⟨w, hw, h2⟩ := Option.map_eq_some_iff.mp h; cases h2; exact Or.inl rfl
/-- the places ahead of, and at, the law's calls of its helpers -/
def zlS (n : Nat) : Bool := decide (n = 373) || decide (n = 478) || decide (n = 374) || decide (n = 479)
def zlq (pc : Nat) (e : zE) : Bool := (decide (e.1 < 40) || decide (60 ≤ e.1) || (!zlS e.2.1 && !zlS e.2.2.1 && e.2.2.2.all (fun t => !zlS t.toNat))) && (!(decide (e.2.1 = 373) || decide (e.2.1 = 478)) || decide (e.1 = 85)) && (!(decide (e.2.1 = 374) || decide (e.2.1 = 479)) || (decide (e.1 = 4) && (decide (pc = 373) || decide (pc = 478)))) && (!(decide (e.2.2.1 = 373) || decide (e.2.2.1 = 374)) || (decide (pc = 374) || decide (pc = 479)))
def zlqL : Nat → List (Option zE) → Bool
  | _, [] => true
  | pc, none :: l => zlqL (pc + 1) l
  | pc, some e :: l => zlq pc e && zlqL (pc + 1) l
theorem zlqL_get : ∀ (l : List (Option zE)) (p0 pc : Nat) (e : zE), zlqL p0 l = true → l.getD pc none = some e → zlq (p0 + pc) e = true
  | [], _, pc, e, _, h => by simp at h
  | none :: l, p0, 0, e, _, h => by simp at h
  | some e' :: l, p0, 0, e, h1, h => by
    simp at h
    subst h
    rw [zlqL, Bool.and_eq_true] at h1
    exact h1.1
  | none :: l, p0, pc + 1, e, h1, h => by
    rw [zlqL] at h1
    have := zlqL_get l (p0 + 1) pc e h1 (by simpa using h)
    rwa [Nat.add_assoc, Nat.add_comm 1 pc] at this
  | some e' :: l, p0, pc + 1, e, h1, h => by
    rw [zlqL, Bool.and_eq_true] at h1
    have := zlqL_get l (p0 + 1) pc e h1.2 (by simpa using h)
    rwa [Nat.add_assoc, Nat.add_comm 1 pc] at this
set_option maxRecDepth 20000 in
theorem zlq_all : zlqL 0 ((ztab.getD (372 / 25) []).getD (372 % 25) []) = true := by decide +kernel
theorem zlq_ok {pc : Nat} {e : zE} (h : zfetch 372 pc = some e) : zlq pc e = true := by
  have := zlqL_get _ 0 pc e zlq_all h
  rwa [Nat.zero_add] at this
def zlI (pc : Nat) (st : List zV) : Prop := ((pc = 373 ∨ pc = 478) → ∃ a st', st = (0, a, 0) :: st') ∧ ((pc = 374 ∨ pc = 479) → ∃ o a st', st = o :: (0, a, 0) :: st')
theorem zF4_85 {ph : Bool} {r : List Int} {st : List zV} {M : zM} {q : List zV × zM} (h : zF4 ph 85 r st M = some q) : ∃ a st', q.1 = (0, a, 0) :: st' := by
  unfold zF4 at h
  rw [if_neg (by decide), if_pos (by decide)] at h
  obtain ⟨w, hw, rfl⟩ := Option.map_eq_some_iff.mp h
  unfold zF4_l at hw
  repeat' split at hw
  all_goals first
    | (cases hw; done)
    | (cases hw; exact ⟨_, _, rfl⟩)
    | omega
theorem zF0_4 {r : List Int} {L st : List zV} {q : List zV × List zV} (h : zF0 4 r L st = some q) : ∃ w, q.2 = w :: st := by
  have h : zF0_al (zr0 r).toNat L st = some q := h
  unfold zF0_al at h
  repeat' split at h
  all_goals first
    | (cases h; done)
    | (cases h; exact ⟨_, rfl⟩)
theorem zlI_step {ph : Bool} {cl : Nat → List zV → zM → zO} {pc op nx tg : Nat} {r : List Int} {L st : List zV} {M : zM} {x : zC} (hf : zfetch 372 pc = some (op, nx, tg, r)) (h : zstep ph cl op nx tg r L st M = some (.inl x)) (hi : zlI pc st) : zlI x.1 x.2.2.1 := by
  have hq := zlq_ok hf
  unfold zlq at hq
  simp only [Bool.and_eq_true, Bool.or_eq_true, Bool.not_eq_true', decide_eq_true_eq, List.all_eq_true] at hq
  obtain ⟨⟨⟨q1, q2⟩, q3⟩, q4⟩ := hq
  have hS : zlS x.1 = true → x.1 = nx := by
    intro hz
    rcases zstep_suc h with h1 | ⟨h40, h60, h1⟩
    · exact h1
    · exfalso
      rcases q1 with (q1 | q1) | ⟨⟨-, q1⟩, q1'⟩
      · omega
      · omega
      · rcases h1 with h1 | ⟨t, ht, h1⟩
        · rw [← h1, hz] at q1; cases q1
        · have := q1' t ht
          rw [← h1, hz] at this; cases this
  constructor
  · intro hx
    have e : x.1 = nx := hS (by unfold zlS; rcases hx with hx | hx <;> rw [hx] <;> rfl)
    have h85 : op = 85 := by
      rcases q2 with q2 | q2
      · rw [Bool.or_eq_false_iff, decide_eq_false_iff_not, decide_eq_false_iff_not] at q2
        rw [e] at hx
        omega
      · exact q2
    subst h85
    obtain ⟨w, hw, e2⟩ := zmap_inl (o := zF4 ph 85 r st M) (f := fun q => (nx, L, q.1, q.2)) h
    subst e2
    exact zF4_85 hw
  · intro hx
    have e : x.1 = nx := hS (by unfold zlS; rcases hx with hx | hx <;> rw [hx] <;> rfl)
    have h4 : op = 4 ∧ (pc = 373 ∨ pc = 478) := by
      rcases q3 with q3 | q3
      · rw [Bool.or_eq_false_iff, decide_eq_false_iff_not, decide_eq_false_iff_not] at q3
        rw [e] at hx
        omega
      · exact q3
    obtain ⟨rfl, hpc⟩ := h4
    obtain ⟨w, hw, e2⟩ := zmap_inl (o := zF0 4 r L st) (f := fun q => (nx, q.1, q.2, M)) h
    subst e2
    obtain ⟨o, ho⟩ := zF0_4 hw
    obtain ⟨a, st', e3⟩ := hi.1 hpc
    exact ⟨o, a, st', by show w.2 = _; rw [ho, e3]⟩
theorem zlI_at {pc op nx tg : Nat} {r : List Int} {st : List zV} (hf : zfetch 372 pc = some (op, nx, tg, r)) (ht : tg = 373 ∨ tg = 374) (hi : zlI pc st) : ∃ o a st', st = o :: (0, a, 0) :: st' := by
  have hq := zlq_ok hf
  unfold zlq at hq
  simp only [Bool.and_eq_true, Bool.or_eq_true, Bool.not_eq_true', decide_eq_true_eq] at hq
  rcases hq.2 with h | h
  · rw [Bool.or_eq_false_iff, decide_eq_false_iff_not, decide_eq_false_iff_not] at h
    omega
  · exact hi.2 h
