/-! a step goes on to a place that its row names, with at most two values more -/
theorem zF0_len {op : Nat} {r : List Int} {L st : List zV} {q : List zV × List zV} (h : zF0 op r L st = some q) : q.2.length ≤ st.length + 2 := by
  unfold zF0 zF0_il zF0_ll zF0_al zF0_is zF0_ls zF0_as zF0_inc at h
  repeat' split at h
  all_goals first
    | (cases h; done)
    | (cases h; simp only [List.length_cons]; omega)
    | (cases h; omega)
theorem zF1_len {op : Nat} {st q : List zV} (h : zF1 op st = some q) : q.length ≤ st.length + 2 := by
  unfold zF1 zF1_n zF1_2 zF1_l zF1_cmp zF1_li zF1_c zF1_sh zF1_d zF1_dd at h
  repeat' split at h
  all_goals first
    | (cases h; done)
    | (cases h; repeat' split
       all_goals (simp only [List.length_cons]; omega))
    | (cases h; omega)
theorem zF3_len {ph : Bool} {op : Nat} {r : List Int} {st : List zV} {M : zM} {q : List zV × zM} (h : zF3 ph op r st M = some q) : q.1.length ≤ st.length + 2 := by
  unfold zF3 at h
  split at h
  · unfold zF3_g at h
    repeat' split at h
    all_goals first
      | (cases h; done)
      | (cases h; simp only [List.length_cons]; omega)
  split at h
  · unfold zF3_p at h
    repeat' split at h
    all_goals first
      | (cases h; done)
      | (cases h; simp only [List.length_cons]; omega)
  · obtain ⟨w, hw, rfl⟩ := Option.map_eq_some_iff.mp h
    unfold zF3_s at hw
    repeat' split at hw
    all_goals first
      | (cases hw; done)
      | (cases hw; simp only [List.length_cons]; omega)
theorem zF4_len {ph : Bool} {op : Nat} {r : List Int} {st : List zV} {M : zM} {q : List zV × zM} (h : zF4 ph op r st M = some q) : q.1.length ≤ st.length + 2 := by
  unfold zF4 at h
  split at h
  · obtain ⟨w, hw, rfl⟩ := Option.map_eq_some_iff.mp h
    unfold zF4_n at hw
    repeat' split at hw
    all_goals first
      | (cases hw; done)
      | (cases hw; simp only [List.length_cons]; omega)
  split at h
  · obtain ⟨w, hw, rfl⟩ := Option.map_eq_some_iff.mp h
    unfold zF4_l at hw
    repeat' split at hw
    all_goals first
      | (cases hw; done)
      | (cases hw; simp only [List.length_cons]; omega)
  split at h
  · unfold zF4_s at h
    repeat' split at h
    all_goals first
      | (cases h; done)
      | (cases h; simp only [List.length_cons]; omega)
  split at h
  · unfold zF4_a at h
    repeat' split at h
    all_goals first
      | (cases h; done)
      | (cases h; simp only [List.length_cons]; omega)
  split at h
  · cases h; simp only [List.length_cons]; omega
  · cases h
theorem zF5_len {op : Nat} {r : List Int} {st q : List zV} (h : zF5 op r st = some q) : q.length ≤ st.length + 2 := by
  unfold zF5 zF5_o at h
  repeat' split at h
  all_goals first
    | (cases h; done)
    | (cases h; simp only [List.length_cons]; omega)
theorem zF6_len {op : Nat} {st : List zV} {M : zM} {q : List zV × zM} (h : zF6 op st M = some q) : q.1.length ≤ st.length + 2 := by
  unfold zF6 at h
  split at h
  · obtain ⟨w, hw, rfl⟩ := Option.map_eq_some_iff.mp h
    unfold zF6_m at hw
    repeat' split at hw
    all_goals first
      | (cases hw; done)
      | (cases hw; simp only [List.length_cons]; omega)
  split at h
  · obtain ⟨w, hw, rfl⟩ := Option.map_eq_some_iff.mp h
    unfold zF6_a at hw
    repeat' split at hw
    all_goals first
      | (cases hw; done)
      | (cases hw; simp only [List.length_cons]; omega)
  split at h
  · unfold zF6_c at h
    repeat' split at h
    all_goals first
      | (cases h; done)
      | (cases h; simp only [List.length_cons]; omega)
  · obtain ⟨w, hw, rfl⟩ := Option.map_eq_some_iff.mp h
    unfold zF6_o at hw
    repeat' split at hw
    all_goals first
      | (cases hw; done)
      | (cases hw; simp only [List.length_cons]; omega)
theorem zargs_len : ∀ (n : Nat) (acc st as s : List zV), zargs n acc st = some (as, s) → s.length ≤ st.length
  | 0, acc, st, as, s, h => by cases h; exact Nat.le_refl _
  | n + 1, acc, [], as, s, h => by cases h
  | n + 1, acc, v :: st, as, s, h => by
    have := zargs_len n (v :: acc) st as s h
    rw [List.length_cons]
    omega
theorem zF8_len {cl : Nat → List zV → zM → zO} {tg : Nat} {r : List Int} {st : List zV} {M : zM} {q : List zV × zM} (h : zF8 cl tg r st M = some q) : q.1.length ≤ st.length + 2 := by
  unfold zF8 at h
  split at h
  · split at h
    · rename_i as s hs
      have hl := zargs_len _ _ _ _ _ hs
      repeat' split at h
      all_goals first
        | (cases h; done)
        | (cases h; simp only [List.length_cons]; omega)
        | (cases h; dsimp only; omega)
    · cases h
  · cases h
theorem ztsw_gt {pc dflt : Nat} {lo : Int} {ts : List Int} {x : Int} (h : pc < dflt) (ht : ∀ t ∈ ts, (pc : Int) < t) : pc < ztsw dflt lo ts x := by
  unfold ztsw
  split
  · cases hg : ts[(x - lo).toNat]? with
    | none => exact h
    | some t =>
      have := ht t (List.mem_of_getElem? hg)
      show pc < t.toNat
      omega
  · exact h
theorem zF2_fwd {op nx tg pc : Nat} {r : List Int} {st : List zV} {q : Nat × List zV} (h : zF2 op nx tg r st = some q) (h1 : pc < nx) (h2 : pc < tg) (h3 : op = 56 → ∀ t ∈ r.tail, (pc : Int) < t) (h4 : op < 57) : pc < q.1 ∧ q.2.length ≤ st.length + 2 := by
  have hb : ∀ b : Bool, pc < (bif b then tg else nx) := fun b => by cases b <;> assumption
  unfold zF2 at h
  split at h
  · unfold zF2_1 at h
    split at h
    · cases h; exact ⟨hb _, by simp only [List.length_cons]; omega⟩
    · cases h
  split at h
  · unfold zF2_2 at h
    split at h
    · cases h; exact ⟨hb _, by simp only [List.length_cons]; omega⟩
    · cases h
  split at h
  · cases h; exact ⟨h2, Nat.le_add_right _ _⟩
  split at h
  · unfold zF2_e at h
    split at h
    · cases h; exact ⟨hb _, by simp only [List.length_cons]; omega⟩
    · cases h
  split at h
  · unfold zF2_n at h
    repeat' split at h
    · cases h; exact ⟨h2, by simp only [List.length_cons]; omega⟩
    · cases h
    · cases h
  split at h
  · rename_i h56
    unfold zF2_t at h
    split at h
    · cases h; exact ⟨ztsw_gt h2 (h3 h56), by simp only [List.length_cons]; omega⟩
    · cases h
  · omega
/-- what a row without a way back looks like -/
def zfwd (pc : Nat) (e : zE) : Bool := decide (pc < e.2.1) && (decide (e.1 < 40) || decide (60 ≤ e.1) || (decide (pc < e.2.2.1) && decide (e.1 < 57) && (decide (e.1 ≠ 56) || e.2.2.2.tail.all (fun t => decide ((pc : Int) < t)))))
theorem zstep_fwd {ph : Bool} {cl : Nat → List zV → zM → zO} {op nx tg pc : Nat} {r : List Int} {L st : List zV} {M : zM} {x : zC} (h : zstep ph cl op nx tg r L st M = some (.inl x)) (hf : zfwd pc (op, nx, tg, r) = true) : pc < x.1 ∧ x.2.2.1.length ≤ st.length + 2 := by
  simp only [zfwd, Bool.and_eq_true, Bool.or_eq_true, decide_eq_true_eq, List.all_eq_true, decide_eq_true_eq] at hf
  obtain ⟨hn, hf⟩ := hf
  unfold zstep at h
  split at h
  · obtain ⟨w, hw, h2⟩ := Option.map_eq_some_iff.mp h; cases h2; exact ⟨hn, zF0_len hw⟩
  split at h
  · obtain ⟨w, hw, h2⟩ := Option.map_eq_some_iff.mp h; cases h2; exact ⟨hn, zF1_len hw⟩
  split at h
  · obtain ⟨w, hw, h2⟩ := Option.map_eq_some_iff.mp h; cases h2
    rcases hf with (hf | hf) | ⟨⟨h2, h3⟩, h4⟩
    · omega
    · omega
    · exact zF2_fwd hw hn h2 (fun z t ht => by
        rcases h4 with h4 | h4
        · exact absurd z h4
        · exact h4 t ht) h3
  split at h
  · obtain ⟨w, hw, h2⟩ := Option.map_eq_some_iff.mp h; cases h2; exact ⟨hn, zF3_len hw⟩
  split at h
  · obtain ⟨w, hw, h2⟩ := Option.map_eq_some_iff.mp h; cases h2; exact ⟨hn, zF8_len hw⟩
  split at h
  · obtain ⟨w, hw, h2⟩ := Option.map_eq_some_iff.mp h; cases h2; exact ⟨hn, zF6_len hw⟩
  split at h
  · obtain ⟨w, hw, h2⟩ := Option.map_eq_some_iff.mp h; cases h2; exact ⟨hn, zF5_len hw⟩
  split at h
  · obtain ⟨w, hw, h2⟩ := Option.map_eq_some_iff.mp h; cases h2
  split at h
  · cases h
  · obtain ⟨w, hw, h2⟩ := Option.map_eq_some_iff.mp h; cases h2; exact ⟨hn, zF4_len hw⟩
/-- hand and question: no way back, the places of their throws -/
def zhq (j pc : Nat) : Bool := match zfetch j pc with
  | some e => zfwd pc e && (decide (e.1 ≠ 96) || (if j = 5 then decide (pc = 8 ∨ pc = 154) else decide (pc = 8 ∨ pc = 102)))
  | none => true
set_option maxRecDepth 20000 in
theorem zhq_ok {j pc : Nat} (hj : j = 5 ∨ j = 7) {e : zE} (h : zfetch j pc = some e) : pc < 170 ∧ zfwd pc e = true ∧ (e.1 = 96 → if j = 5 then pc = 8 ∨ pc = 154 else pc = 8 ∨ pc = 102) := by
  have hl : pc < 170 := by
    apply Nat.lt_of_not_le
    intro hge
    unfold zfetch at h
    have h2 : ((ztab.getD (j / 25) []).getD (j % 25) []).length ≤ 170 := by rcases hj with rfl | rfl <;> decide +kernel
    rw [List.getD_eq_getElem?_getD (l := (ztab.getD (j / 25) []).getD (j % 25) []), List.getElem?_eq_none (by omega)] at h
    cases h
  have key : ((List.range 170).all (zhq j)) = true := by rcases hj with rfl | rfl <;> decide +kernel
  have h3 := List.all_eq_true.mp key pc (List.mem_range.mpr hl)
  unfold zhq at h3
  rw [h] at h3
  simp only [Bool.and_eq_true, Bool.or_eq_true, decide_eq_true_eq] at h3
  refine ⟨hl, h3.1, fun z => ?_⟩
  rcases h3.2 with h4 | h4
  · exact absurd z h4
  · split at h4
    · rename_i h5; rw [if_pos h5]; exact of_decide_eq_true h4
    · rename_i h5; rw [if_neg h5]; exact of_decide_eq_true h4
